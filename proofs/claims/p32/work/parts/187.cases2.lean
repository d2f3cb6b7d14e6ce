set_option maxHeartbeats 4000000 in
theorem law_c2 {p : Program} {l : Launch} {e : Env} {s : State} {m : MethodId} {below : List Frame} {meth : Method} {c : Code} {b L : Nat} {xs : Nat → Int32} {g : Nat → Value} {ad : Nat → Nat} {D : va_G} {cA : Nat → ClassId} {H : Heap} {locs : List Loc} {cells slots : Nat} {ls : Array Slot} {i : Int32} {σ : jM} (C0 : lw_At p s m meth c b L xs) (hC : j_Cx g ad s.heap.size D cA vwCl j_TW j_zs j_ks "HundredWordsLaw" "law" code 4 p s m #[.ref b] meth c) (hv : ∀ d : Nat, d ≤ 5 → vp_in (i + Int32.ofNat d) L) (I : Inv σ) (hH : j_H g ad s.heap.size D cA vwCl s H (HP σ)) (hS : va_S (j_A s.heap.size) s.heap H locs) (hc : cells ≤ 600000) (hs : slots ≤ 7302250) (hl : lv_has ls 4 [(0, .ref b), (1, .ref (ad 9)), (2, .ref (ad 117)), (3, .int i)]) (K : ∀ (H2 : Heap) (locs2 : List Loc) (ls2 : Array Slot) (ρ : jM), Inv ρ → j_H g ad s.heap.size D cA vwCl s H2 (HP ρ) → va_S (j_A s.heap.size) s.heap H2 locs2 → lv_has ls2 4 [(3, .int (i + Int32.ofInt 6)), (0, .ref b), (1, .ref (ad 9)), (2, .ref (ad 117))] → W p l e room_1 s m #[Value.ref b] below meth c H2 locs2 cells slots (lw_Z below #[Value.ref b] s) (F0 m 18 ls2 [])) : W p l e room_1 s m #[Value.ref b] below meth c H locs cells slots (lw_Z below #[Value.ref b] s) (F0 m 282 ls []) := by
  obtain ⟨hx, hb, hr, hml, hown, hts, hX, hbl, hlocks, hgv⟩ := id C0
  have hbA : ¬ j_A s.heap.size b := Nat.not_le.mpr hbl
  refine lv_aload_n hx hb dl_282 rfl (lv_at hl 1 rfl) ?_
  obtain ⟨n1, n2, w1, w2, τ, ρ, r1, r2, I2⟩ := pm_tongue I 
  refine W.eq (g2 := F0 m 283 ls ((([] : List Value).map (j_rv g)).reverse ++ .ref (ad 9) :: [])) rfl ?_
  refine j_lawV hC (as := []) (a := 9) (rest := []) r1 dl_283 (j := 28) (Nat.le_of_ble_eq_true rfl) (by decide +kernel) (j_has_in (c := 3) (o := 36) (by decide +kernel)) (Nat.le_of_ble_eq_true rfl) HP_x (show 0 = j_np 28 from by decide +kernel) (show (lg_sl _).length ≤ 3 from Nat.le_of_ble_eq_true rfl) (Nat.le_of_ble_eq_true rfl) (show 8 + (3 + 11) + 20000 ≤ 84000 from Nat.le_of_ble_eq_true rfl) (Nat.le_of_ble_eq_true rfl) hl.1 hH hS hc hs (fun H1 locs1 hH1 hS1 => ?_)
  show W p l e room_1 s m #[Value.ref b] below meth c H1 locs1 _ _ (lw_Z below #[Value.ref b] s) (F0 m 286 ls [iV w1])
  have hS := hS1
  refine lv_pop hx hb dl_286 rfl ?_
  refine lv_aload_n hx hb dl_287 rfl (lv_at hl 2 rfl) ?_
  refine W.eq (g2 := F0 m 288 ls ((([] : List Value).map (j_rv g)).reverse ++ .ref (ad 117) :: [])) rfl ?_
  refine j_lawV hC (as := []) (a := 117) (rest := []) r2 dl_288 (j := 214) (Nat.le_of_ble_eq_true rfl) (by decide +kernel) (j_has_in (c := 7) (o := 165) (by decide +kernel)) (Nat.le_of_ble_eq_true rfl) HP_m (show 0 = j_np 214 from by decide +kernel) (show (lg_sl _).length ≤ 2 from Nat.le_of_ble_eq_true rfl) (Nat.le_of_ble_eq_true rfl) (show 8 + (2 + 11) + 20000 ≤ 84000 from Nat.le_of_ble_eq_true rfl) (Nat.le_of_ble_eq_true rfl) hl.1 hH1 hS hc hs (fun H2 locs2 hH2 hS2 => ?_)
  show W p l e room_1 s m #[Value.ref b] below meth c H2 locs2 _ _ (lw_Z below #[Value.ref b] s) (F0 m 291 ls [iV w2])
  have hS := hS2
  refine lv_pop hx hb dl_291 rfl ?_
  refine lv_goto (tgt := 1225) hx hb dl_292 (by decide) ?_
  refine lv_iinc (v := i + Int32.ofInt 6) (lv' := [(3, .int (i + Int32.ofInt 6)), (0, .ref b), (1, .ref (ad 9)), (2, .ref (ad 117))]) hx hb dl_1225 hl (k := 3) rfl rfl (by decide) rfl (fun ls hl => ?_)
  refine lv_goto (tgt := 18) hx hb dl_1228 (by decide) ?_
  exact K _ _ _ _ I2 hH2 hS hl
set_option maxHeartbeats 4000000 in
theorem law_c5 {p : Program} {l : Launch} {e : Env} {s : State} {m : MethodId} {below : List Frame} {meth : Method} {c : Code} {b L : Nat} {xs : Nat → Int32} {g : Nat → Value} {ad : Nat → Nat} {D : va_G} {cA : Nat → ClassId} {H : Heap} {locs : List Loc} {cells slots : Nat} {ls : Array Slot} {i : Int32} {σ : jM} (C0 : lw_At p s m meth c b L xs) (hC : j_Cx g ad s.heap.size D cA vwCl j_TW j_zs j_ks "HundredWordsLaw" "law" code 4 p s m #[.ref b] meth c) (hv : ∀ d : Nat, d ≤ 5 → vp_in (i + Int32.ofNat d) L) (I : Inv σ) (hH : j_H g ad s.heap.size D cA vwCl s H (HP σ)) (hS : va_S (j_A s.heap.size) s.heap H locs) (hc : cells ≤ 600000) (hs : slots ≤ 7302250) (hl : lv_has ls 4 [(0, .ref b), (1, .ref (ad 9)), (2, .ref (ad 117)), (3, .int i)]) (K : ∀ (H2 : Heap) (locs2 : List Loc) (ls2 : Array Slot) (ρ : jM), Inv ρ → j_H g ad s.heap.size D cA vwCl s H2 (HP ρ) → va_S (j_A s.heap.size) s.heap H2 locs2 → lv_has ls2 4 [(3, .int (i + Int32.ofInt 6)), (0, .ref b), (1, .ref (ad 9)), (2, .ref (ad 117))] → W p l e room_1 s m #[Value.ref b] below meth c H2 locs2 cells slots (lw_Z below #[Value.ref b] s) (F0 m 18 ls2 [])) : W p l e room_1 s m #[Value.ref b] below meth c H locs cells slots (lw_Z below #[Value.ref b] s) (F0 m 357 ls []) := by
  obtain ⟨hx, hb, hr, hml, hown, hts, hX, hbl, hlocks, hgv⟩ := id C0
  have hbA : ¬ j_A s.heap.size b := Nat.not_le.mpr hbl
  refine lv_aload_n hx hb dl_357 rfl (lv_at hl 1 rfl) ?_
  refine lv_aload_n hx hb dl_358 rfl (lv_at hl 0 rfl) ?_
  refine lv_iload_n hx hb dl_359 rfl (lv_at hl 3 rfl) ?_
  refine lv_iconst (v := 1) hx hb dl_360 (by decide) ?_
  refine lv_iadd hx hb dl_361 ?_
  refine va_sld hx hb hX hbl hbA hS (i := (i + 1)) (hv 1 (by decide)) dl_362 ?_
  obtain ⟨n1, n2, w1, w2, τ, ρ, r1, r2, I2⟩ := pm_has I ((xs (Int32.toNatClampNeg (i + 1))))
  refine W.eq (g2 := F0 m 363 ls ((([.int (xs (Int32.toNatClampNeg (i + 1)))] : List Value).map (j_rv g)).reverse ++ .ref (ad 9) :: [])) rfl ?_
  refine j_lawV hC (as := [.int (xs (Int32.toNatClampNeg (i + 1)))]) (a := 9) (rest := []) r1 dl_363 (j := 90) (Nat.le_of_ble_eq_true rfl) (by decide +kernel) (j_has_in (c := 4) (o := 64) (by decide +kernel)) (Nat.le_of_ble_eq_true rfl) HP_x (show 1 = j_np 90 from by decide +kernel) (show (lg_sl _).length ≤ 2 from Nat.le_of_ble_eq_true rfl) (Nat.le_of_ble_eq_true rfl) (show 8 + (2 + 11) + 20000 ≤ 84000 from Nat.le_of_ble_eq_true rfl) (Nat.le_of_ble_eq_true rfl) hl.1 hH hS hc hs (fun H1 locs1 hH1 hS1 => ?_)
  show W p l e room_1 s m #[Value.ref b] below meth c H1 locs1 _ _ (lw_Z below #[Value.ref b] s) (F0 m 366 ls [iV w1])
  have hS := hS1
  refine lv_pop hx hb dl_366 rfl ?_
  refine lv_aload_n hx hb dl_367 rfl (lv_at hl 2 rfl) ?_
  refine lv_aload_n hx hb dl_368 rfl (lv_at hl 0 rfl) ?_
  refine lv_iload_n hx hb dl_369 rfl (lv_at hl 3 rfl) ?_
  refine lv_iconst (v := 1) hx hb dl_370 (by decide) ?_
  refine lv_iadd hx hb dl_371 ?_
  refine va_sld hx hb hX hbl hbA hS (i := (i + 1)) (hv 1 (by decide)) dl_372 ?_
  refine W.eq (g2 := F0 m 373 ls ((([.int (xs (Int32.toNatClampNeg (i + 1)))] : List Value).map (j_rv g)).reverse ++ .ref (ad 117) :: [])) rfl ?_
  refine j_lawV hC (as := [.int (xs (Int32.toNatClampNeg (i + 1)))]) (a := 117) (rest := []) r2 dl_373 (j := 265) (Nat.le_of_ble_eq_true rfl) (by decide +kernel) (j_has_in (c := 8) (o := 128) (by decide +kernel)) (Nat.le_of_ble_eq_true rfl) HP_m (show 1 = j_np 265 from by decide +kernel) (show (lg_sl _).length ≤ 4 from Nat.le_of_ble_eq_true rfl) (Nat.le_of_ble_eq_true rfl) (show 8 + (4 + 11) + 20000 ≤ 84000 from Nat.le_of_ble_eq_true rfl) (Nat.le_of_ble_eq_true rfl) hl.1 hH1 hS hc hs (fun H2 locs2 hH2 hS2 => ?_)
  show W p l e room_1 s m #[Value.ref b] below meth c H2 locs2 _ _ (lw_Z below #[Value.ref b] s) (F0 m 376 ls [iV w2])
  have hS := hS2
  refine lv_pop hx hb dl_376 rfl ?_
  refine lv_goto (tgt := 1225) hx hb dl_377 (by decide) ?_
  refine lv_iinc (v := i + Int32.ofInt 6) (lv' := [(3, .int (i + Int32.ofInt 6)), (0, .ref b), (1, .ref (ad 9)), (2, .ref (ad 117))]) hx hb dl_1225 hl (k := 3) rfl rfl (by decide) rfl (fun ls hl => ?_)
  refine lv_goto (tgt := 18) hx hb dl_1228 (by decide) ?_
  exact K _ _ _ _ I2 hH2 hS hl
set_option maxHeartbeats 4000000 in
theorem law_c8 {p : Program} {l : Launch} {e : Env} {s : State} {m : MethodId} {below : List Frame} {meth : Method} {c : Code} {b L : Nat} {xs : Nat → Int32} {g : Nat → Value} {ad : Nat → Nat} {D : va_G} {cA : Nat → ClassId} {H : Heap} {locs : List Loc} {cells slots : Nat} {ls : Array Slot} {i : Int32} {σ : jM} (C0 : lw_At p s m meth c b L xs) (hC : j_Cx g ad s.heap.size D cA vwCl j_TW j_zs j_ks "HundredWordsLaw" "law" code 4 p s m #[.ref b] meth c) (hv : ∀ d : Nat, d ≤ 5 → vp_in (i + Int32.ofNat d) L) (I : Inv σ) (hH : j_H g ad s.heap.size D cA vwCl s H (HP σ)) (hS : va_S (j_A s.heap.size) s.heap H locs) (hc : cells ≤ 600000) (hs : slots ≤ 7302250) (hl : lv_has ls 4 [(0, .ref b), (1, .ref (ad 9)), (2, .ref (ad 117)), (3, .int i)]) (K : ∀ (H2 : Heap) (locs2 : List Loc) (ls2 : Array Slot) (ρ : jM), Inv ρ → j_H g ad s.heap.size D cA vwCl s H2 (HP ρ) → va_S (j_A s.heap.size) s.heap H2 locs2 → lv_has ls2 4 [(3, .int (i + Int32.ofInt 6)), (0, .ref b), (1, .ref (ad 9)), (2, .ref (ad 117))] → W p l e room_1 s m #[Value.ref b] below meth c H2 locs2 cells slots (lw_Z below #[Value.ref b] s) (F0 m 18 ls2 [])) : W p l e room_1 s m #[Value.ref b] below meth c H locs cells slots (lw_Z below #[Value.ref b] s) (F0 m 462 ls []) := by
  obtain ⟨hx, hb, hr, hml, hown, hts, hX, hbl, hlocks, hgv⟩ := id C0
  have hbA : ¬ j_A s.heap.size b := Nat.not_le.mpr hbl
  refine lv_aload_n hx hb dl_462 rfl (lv_at hl 1 rfl) ?_
  refine lv_aload_n hx hb dl_463 rfl (lv_at hl 0 rfl) ?_
  refine lv_iload_n hx hb dl_464 rfl (lv_at hl 3 rfl) ?_
  refine lv_iconst (v := 1) hx hb dl_465 (by decide) ?_
  refine lv_iadd hx hb dl_466 ?_
  refine va_sld hx hb hX hbl hbA hS (i := (i + 1)) (hv 1 (by decide)) dl_467 ?_
  refine lv_if_eq (tgt := 475) hx hb dl_468 (by decide) (fun hq0 => ?_) (fun hq0 => ?_)
  · skip
    refine lv_iconst (v := 0) hx hb dl_475 (by decide) ?_
    refine lv_aload_n hx hb dl_476 rfl (lv_at hl 0 rfl) ?_
    refine lv_iload_n hx hb dl_477 rfl (lv_at hl 3 rfl) ?_
    refine lv_iconst (v := 2) hx hb dl_478 (by decide) ?_
    refine lv_iadd hx hb dl_479 ?_
    refine va_sld hx hb hX hbl hbA hS (i := (i + 2)) (hv 2 (by decide)) dl_480 ?_
    obtain ⟨n1, n2, w1, w2, τ, ρ, r1, r2, I2⟩ := pm_size_0 I ((xs (Int32.toNatClampNeg (i + 2))))
    refine W.eq (g2 := F0 m 481 ls ((([.int 0, .int (xs (Int32.toNatClampNeg (i + 2)))] : List Value).map (j_rv g)).reverse ++ .ref (ad 9) :: [])) rfl ?_
    refine j_lawV hC (as := [.int 0, .int (xs (Int32.toNatClampNeg (i + 2)))]) (a := 9) (rest := []) r1 dl_481 (j := 95) (Nat.le_of_ble_eq_true rfl) (by decide +kernel) (j_has_in (c := 4) (o := 84) (by decide +kernel)) (Nat.le_of_ble_eq_true rfl) HP_x (show 2 = j_np 95 from by decide +kernel) (show (lg_sl _).length ≤ 4 from Nat.le_of_ble_eq_true rfl) (Nat.le_of_ble_eq_true rfl) (show 8 + (4 + 11) + 20000 ≤ 84000 from Nat.le_of_ble_eq_true rfl) (Nat.le_of_ble_eq_true rfl) hl.1 hH hS hc hs (fun H1 locs1 hH1 hS1 => ?_)
    show W p l e room_1 s m #[Value.ref b] below meth c H1 locs1 _ _ (lw_Z below #[Value.ref b] s) (F0 m 484 ls [iV w1])
    have hS := hS1
    refine lv_pop hx hb dl_484 rfl ?_
    refine lv_aload_n hx hb dl_485 rfl (lv_at hl 2 rfl) ?_
    refine lv_aload_n hx hb dl_486 rfl (lv_at hl 0 rfl) ?_
    refine lv_iload_n hx hb dl_487 rfl (lv_at hl 3 rfl) ?_
    refine lv_iconst (v := 1) hx hb dl_488 (by decide) ?_
    refine lv_iadd hx hb dl_489 ?_
    refine va_sld hx hb hX hbl hbA hS (i := (i + 1)) (hv 1 (by decide)) dl_490 ?_
    refine lv_if_eq (tgt := 498) hx hb dl_491 (by decide) (fun hq1 => ?_) (fun hq1 => ?_)
    · skip
      refine lv_iconst (v := 0) hx hb dl_498 (by decide) ?_
      refine lv_aload_n hx hb dl_499 rfl (lv_at hl 0 rfl) ?_
      refine lv_iload_n hx hb dl_500 rfl (lv_at hl 3 rfl) ?_
      refine lv_iconst (v := 2) hx hb dl_501 (by decide) ?_
      refine lv_iadd hx hb dl_502 ?_
      refine va_sld hx hb hX hbl hbA hS (i := (i + 2)) (hv 2 (by decide)) dl_503 ?_
      refine W.eq (g2 := F0 m 504 ls ((([.int 0, .int (xs (Int32.toNatClampNeg (i + 2)))] : List Value).map (j_rv g)).reverse ++ .ref (ad 117) :: [])) rfl ?_
      refine j_lawV hC (as := [.int 0, .int (xs (Int32.toNatClampNeg (i + 2)))]) (a := 117) (rest := []) r2 dl_504 (j := 270) (Nat.le_of_ble_eq_true rfl) (by decide +kernel) (j_has_in (c := 8) (o := 149) (by decide +kernel)) (Nat.le_of_ble_eq_true rfl) HP_m (show 2 = j_np 270 from by decide +kernel) (show (lg_sl _).length ≤ 3 from Nat.le_of_ble_eq_true rfl) (Nat.le_of_ble_eq_true rfl) (show 8 + (3 + 11) + 20000 ≤ 84000 from Nat.le_of_ble_eq_true rfl) (Nat.le_of_ble_eq_true rfl) hl.1 hH1 hS hc hs (fun H2 locs2 hH2 hS2 => ?_)
      show W p l e room_1 s m #[Value.ref b] below meth c H2 locs2 _ _ (lw_Z below #[Value.ref b] s) (F0 m 507 ls [iV w2])
      have hS := hS2
      refine lv_pop hx hb dl_507 rfl ?_
      refine lv_goto (tgt := 1225) hx hb dl_508 (by decide) ?_
      refine lv_iinc (v := i + Int32.ofInt 6) (lv' := [(3, .int (i + Int32.ofInt 6)), (0, .ref b), (1, .ref (ad 9)), (2, .ref (ad 117))]) hx hb dl_1225 hl (k := 3) rfl rfl (by decide) rfl (fun ls hl => ?_)
      refine lv_goto (tgt := 18) hx hb dl_1228 (by decide) ?_
      exact K _ _ _ _ I2 hH2 hS hl
    · exact absurd hq0 hq1
  · skip
    refine lv_iconst (v := 1) hx hb dl_471 (by decide) ?_
    refine lv_goto (tgt := 476) hx hb dl_472 (by decide) ?_
    refine lv_aload_n hx hb dl_476 rfl (lv_at hl 0 rfl) ?_
    refine lv_iload_n hx hb dl_477 rfl (lv_at hl 3 rfl) ?_
    refine lv_iconst (v := 2) hx hb dl_478 (by decide) ?_
    refine lv_iadd hx hb dl_479 ?_
    refine va_sld hx hb hX hbl hbA hS (i := (i + 2)) (hv 2 (by decide)) dl_480 ?_
    obtain ⟨n1, n2, w1, w2, τ, ρ, r1, r2, I2⟩ := pm_size_1 I ((xs (Int32.toNatClampNeg (i + 2))))
    refine W.eq (g2 := F0 m 481 ls ((([.int 1, .int (xs (Int32.toNatClampNeg (i + 2)))] : List Value).map (j_rv g)).reverse ++ .ref (ad 9) :: [])) rfl ?_
    refine j_lawV hC (as := [.int 1, .int (xs (Int32.toNatClampNeg (i + 2)))]) (a := 9) (rest := []) r1 dl_481 (j := 95) (Nat.le_of_ble_eq_true rfl) (by decide +kernel) (j_has_in (c := 4) (o := 84) (by decide +kernel)) (Nat.le_of_ble_eq_true rfl) HP_x (show 2 = j_np 95 from by decide +kernel) (show (lg_sl _).length ≤ 4 from Nat.le_of_ble_eq_true rfl) (Nat.le_of_ble_eq_true rfl) (show 8 + (4 + 11) + 20000 ≤ 84000 from Nat.le_of_ble_eq_true rfl) (Nat.le_of_ble_eq_true rfl) hl.1 hH hS hc hs (fun H1 locs1 hH1 hS1 => ?_)
    show W p l e room_1 s m #[Value.ref b] below meth c H1 locs1 _ _ (lw_Z below #[Value.ref b] s) (F0 m 484 ls [iV w1])
    have hS := hS1
    refine lv_pop hx hb dl_484 rfl ?_
    refine lv_aload_n hx hb dl_485 rfl (lv_at hl 2 rfl) ?_
    refine lv_aload_n hx hb dl_486 rfl (lv_at hl 0 rfl) ?_
    refine lv_iload_n hx hb dl_487 rfl (lv_at hl 3 rfl) ?_
    refine lv_iconst (v := 1) hx hb dl_488 (by decide) ?_
    refine lv_iadd hx hb dl_489 ?_
    refine va_sld hx hb hX hbl hbA hS (i := (i + 1)) (hv 1 (by decide)) dl_490 ?_
    refine lv_if_eq (tgt := 498) hx hb dl_491 (by decide) (fun hq1 => ?_) (fun hq1 => ?_)
    · exact absurd hq1 hq0
    · skip
      refine lv_iconst (v := 1) hx hb dl_494 (by decide) ?_
      refine lv_goto (tgt := 499) hx hb dl_495 (by decide) ?_
      refine lv_aload_n hx hb dl_499 rfl (lv_at hl 0 rfl) ?_
      refine lv_iload_n hx hb dl_500 rfl (lv_at hl 3 rfl) ?_
      refine lv_iconst (v := 2) hx hb dl_501 (by decide) ?_
      refine lv_iadd hx hb dl_502 ?_
      refine va_sld hx hb hX hbl hbA hS (i := (i + 2)) (hv 2 (by decide)) dl_503 ?_
      refine W.eq (g2 := F0 m 504 ls ((([.int 1, .int (xs (Int32.toNatClampNeg (i + 2)))] : List Value).map (j_rv g)).reverse ++ .ref (ad 117) :: [])) rfl ?_
      refine j_lawV hC (as := [.int 1, .int (xs (Int32.toNatClampNeg (i + 2)))]) (a := 117) (rest := []) r2 dl_504 (j := 270) (Nat.le_of_ble_eq_true rfl) (by decide +kernel) (j_has_in (c := 8) (o := 149) (by decide +kernel)) (Nat.le_of_ble_eq_true rfl) HP_m (show 2 = j_np 270 from by decide +kernel) (show (lg_sl _).length ≤ 3 from Nat.le_of_ble_eq_true rfl) (Nat.le_of_ble_eq_true rfl) (show 8 + (3 + 11) + 20000 ≤ 84000 from Nat.le_of_ble_eq_true rfl) (Nat.le_of_ble_eq_true rfl) hl.1 hH1 hS hc hs (fun H2 locs2 hH2 hS2 => ?_)
      show W p l e room_1 s m #[Value.ref b] below meth c H2 locs2 _ _ (lw_Z below #[Value.ref b] s) (F0 m 507 ls [iV w2])
      have hS := hS2
      refine lv_pop hx hb dl_507 rfl ?_
      refine lv_goto (tgt := 1225) hx hb dl_508 (by decide) ?_
      refine lv_iinc (v := i + Int32.ofInt 6) (lv' := [(3, .int (i + Int32.ofInt 6)), (0, .ref b), (1, .ref (ad 9)), (2, .ref (ad 117))]) hx hb dl_1225 hl (k := 3) rfl rfl (by decide) rfl (fun ls hl => ?_)
      refine lv_goto (tgt := 18) hx hb dl_1228 (by decide) ?_
      exact K _ _ _ _ I2 hH2 hS hl
set_option maxHeartbeats 4000000 in
theorem law_c11 {p : Program} {l : Launch} {e : Env} {s : State} {m : MethodId} {below : List Frame} {meth : Method} {c : Code} {b L : Nat} {xs : Nat → Int32} {g : Nat → Value} {ad : Nat → Nat} {D : va_G} {cA : Nat → ClassId} {H : Heap} {locs : List Loc} {cells slots : Nat} {ls : Array Slot} {i : Int32} {σ : jM} (C0 : lw_At p s m meth c b L xs) (hC : j_Cx g ad s.heap.size D cA vwCl j_TW j_zs j_ks "HundredWordsLaw" "law" code 4 p s m #[.ref b] meth c) (hv : ∀ d : Nat, d ≤ 5 → vp_in (i + Int32.ofNat d) L) (I : Inv σ) (hH : j_H g ad s.heap.size D cA vwCl s H (HP σ)) (hS : va_S (j_A s.heap.size) s.heap H locs) (hc : cells ≤ 600000) (hs : slots ≤ 7302250) (hl : lv_has ls 4 [(0, .ref b), (1, .ref (ad 9)), (2, .ref (ad 117)), (3, .int i)]) (K : ∀ (H2 : Heap) (locs2 : List Loc) (ls2 : Array Slot) (ρ : jM), Inv ρ → j_H g ad s.heap.size D cA vwCl s H2 (HP ρ) → va_S (j_A s.heap.size) s.heap H2 locs2 → lv_has ls2 4 [(3, .int (i + Int32.ofInt 6)), (0, .ref b), (1, .ref (ad 9)), (2, .ref (ad 117))] → W p l e room_1 s m #[Value.ref b] below meth c H2 locs2 cells slots (lw_Z below #[Value.ref b] s) (F0 m 18 ls2 [])) : W p l e room_1 s m #[Value.ref b] below meth c H locs cells slots (lw_Z below #[Value.ref b] s) (F0 m 593 ls []) := by
  obtain ⟨hx, hb, hr, hml, hown, hts, hX, hbl, hlocks, hgv⟩ := id C0
  have hbA : ¬ j_A s.heap.size b := Nat.not_le.mpr hbl
  refine lv_aload_n hx hb dl_593 rfl (lv_at hl 1 rfl) ?_
  refine lv_aload_n hx hb dl_594 rfl (lv_at hl 0 rfl) ?_
  refine lv_iload_n hx hb dl_595 rfl (lv_at hl 3 rfl) ?_
  refine lv_iconst (v := 1) hx hb dl_596 (by decide) ?_
  refine lv_iadd hx hb dl_597 ?_
  refine va_sld hx hb hX hbl hbA hS (i := (i + 1)) (hv 1 (by decide)) dl_598 ?_
  refine lv_aload_n hx hb dl_599 rfl (lv_at hl 0 rfl) ?_
  refine lv_iload_n hx hb dl_600 rfl (lv_at hl 3 rfl) ?_
  refine lv_iconst (v := 2) hx hb dl_601 (by decide) ?_
  refine lv_iadd hx hb dl_602 ?_
  refine va_sld hx hb hX hbl hbA hS (i := (i + 2)) (hv 2 (by decide)) dl_603 ?_
  obtain ⟨n1, n2, w1, w2, τ, ρ, r1, r2, I2⟩ := pm_led I ((xs (Int32.toNatClampNeg (i + 1)))) ((xs (Int32.toNatClampNeg (i + 2))))
  refine W.eq (g2 := F0 m 604 ls ((([.int (xs (Int32.toNatClampNeg (i + 1))), .int (xs (Int32.toNatClampNeg (i + 2)))] : List Value).map (j_rv g)).reverse ++ .ref (ad 9) :: [])) rfl ?_
  refine j_lawV hC (as := [.int (xs (Int32.toNatClampNeg (i + 1))), .int (xs (Int32.toNatClampNeg (i + 2)))]) (a := 9) (rest := []) r1 dl_604 (j := 104) (Nat.le_of_ble_eq_true rfl) (by decide +kernel) (j_has_in (c := 4) (o := 122) (by decide +kernel)) (Nat.le_of_ble_eq_true rfl) HP_x (show 2 = j_np 104 from by decide +kernel) (show (lg_sl _).length ≤ 5 from Nat.le_of_ble_eq_true rfl) (Nat.le_of_ble_eq_true rfl) (show 8 + (5 + 11) + 20000 ≤ 84000 from Nat.le_of_ble_eq_true rfl) (Nat.le_of_ble_eq_true rfl) hl.1 hH hS hc hs (fun H1 locs1 hH1 hS1 => ?_)
  show W p l e room_1 s m #[Value.ref b] below meth c H1 locs1 _ _ (lw_Z below #[Value.ref b] s) (F0 m 607 ls [iV w1])
  have hS := hS1
  refine lv_pop hx hb dl_607 rfl ?_
  refine lv_aload_n hx hb dl_608 rfl (lv_at hl 2 rfl) ?_
  refine lv_aload_n hx hb dl_609 rfl (lv_at hl 0 rfl) ?_
  refine lv_iload_n hx hb dl_610 rfl (lv_at hl 3 rfl) ?_
  refine lv_iconst (v := 1) hx hb dl_611 (by decide) ?_
  refine lv_iadd hx hb dl_612 ?_
  refine va_sld hx hb hX hbl hbA hS (i := (i + 1)) (hv 1 (by decide)) dl_613 ?_
  refine lv_aload_n hx hb dl_614 rfl (lv_at hl 0 rfl) ?_
  refine lv_iload_n hx hb dl_615 rfl (lv_at hl 3 rfl) ?_
  refine lv_iconst (v := 2) hx hb dl_616 (by decide) ?_
  refine lv_iadd hx hb dl_617 ?_
  refine va_sld hx hb hX hbl hbA hS (i := (i + 2)) (hv 2 (by decide)) dl_618 ?_
  refine W.eq (g2 := F0 m 619 ls ((([.int (xs (Int32.toNatClampNeg (i + 1))), .int (xs (Int32.toNatClampNeg (i + 2)))] : List Value).map (j_rv g)).reverse ++ .ref (ad 117) :: [])) rfl ?_
  refine j_lawV hC (as := [.int (xs (Int32.toNatClampNeg (i + 1))), .int (xs (Int32.toNatClampNeg (i + 2)))]) (a := 117) (rest := []) r2 dl_619 (j := 279) (Nat.le_of_ble_eq_true rfl) (by decide +kernel) (j_has_in (c := 8) (o := 184) (by decide +kernel)) (Nat.le_of_ble_eq_true rfl) HP_m (show 2 = j_np 279 from by decide +kernel) (show (lg_sl _).length ≤ 5 from Nat.le_of_ble_eq_true rfl) (Nat.le_of_ble_eq_true rfl) (show 8 + (5 + 11) + 20000 ≤ 84000 from Nat.le_of_ble_eq_true rfl) (Nat.le_of_ble_eq_true rfl) hl.1 hH1 hS hc hs (fun H2 locs2 hH2 hS2 => ?_)
  show W p l e room_1 s m #[Value.ref b] below meth c H2 locs2 _ _ (lw_Z below #[Value.ref b] s) (F0 m 622 ls [iV w2])
  have hS := hS2
  refine lv_pop hx hb dl_622 rfl ?_
  refine lv_goto (tgt := 1225) hx hb dl_623 (by decide) ?_
  refine lv_iinc (v := i + Int32.ofInt 6) (lv' := [(3, .int (i + Int32.ofInt 6)), (0, .ref b), (1, .ref (ad 9)), (2, .ref (ad 117))]) hx hb dl_1225 hl (k := 3) rfl rfl (by decide) rfl (fun ls hl => ?_)
  refine lv_goto (tgt := 18) hx hb dl_1228 (by decide) ?_
  exact K _ _ _ _ I2 hH2 hS hl
set_option maxHeartbeats 4000000 in
theorem law_c14 {p : Program} {l : Launch} {e : Env} {s : State} {m : MethodId} {below : List Frame} {meth : Method} {c : Code} {b L : Nat} {xs : Nat → Int32} {g : Nat → Value} {ad : Nat → Nat} {D : va_G} {cA : Nat → ClassId} {H : Heap} {locs : List Loc} {cells slots : Nat} {ls : Array Slot} {i : Int32} {σ : jM} (C0 : lw_At p s m meth c b L xs) (hC : j_Cx g ad s.heap.size D cA vwCl j_TW j_zs j_ks "HundredWordsLaw" "law" code 4 p s m #[.ref b] meth c) (hv : ∀ d : Nat, d ≤ 5 → vp_in (i + Int32.ofNat d) L) (I : Inv σ) (hH : j_H g ad s.heap.size D cA vwCl s H (HP σ)) (hS : va_S (j_A s.heap.size) s.heap H locs) (hc : cells ≤ 600000) (hs : slots ≤ 7302250) (hl : lv_has ls 4 [(0, .ref b), (1, .ref (ad 9)), (2, .ref (ad 117)), (3, .int i)]) (K : ∀ (H2 : Heap) (locs2 : List Loc) (ls2 : Array Slot) (ρ : jM), Inv ρ → j_H g ad s.heap.size D cA vwCl s H2 (HP ρ) → va_S (j_A s.heap.size) s.heap H2 locs2 → lv_has ls2 4 [(3, .int (i + Int32.ofInt 6)), (0, .ref b), (1, .ref (ad 9)), (2, .ref (ad 117))] → W p l e room_1 s m #[Value.ref b] below meth c H2 locs2 cells slots (lw_Z below #[Value.ref b] s) (F0 m 18 ls2 [])) : W p l e room_1 s m #[Value.ref b] below meth c H locs cells slots (lw_Z below #[Value.ref b] s) (F0 m 682 ls []) := by
  obtain ⟨hx, hb, hr, hml, hown, hts, hX, hbl, hlocks, hgv⟩ := id C0
  have hbA : ¬ j_A s.heap.size b := Nat.not_le.mpr hbl
  refine lv_aload_n hx hb dl_682 rfl (lv_at hl 1 rfl) ?_
  refine lv_aload_n hx hb dl_683 rfl (lv_at hl 0 rfl) ?_
  refine lv_iload_n hx hb dl_684 rfl (lv_at hl 3 rfl) ?_
  refine lv_iconst (v := 1) hx hb dl_685 (by decide) ?_
  refine lv_iadd hx hb dl_686 ?_
  refine va_sld hx hb hX hbl hbA hS (i := (i + 1)) (hv 1 (by decide)) dl_687 ?_
  obtain ⟨n1, n2, w1, w2, τ, ρ, r1, r2, I2⟩ := pm_strike I ((xs (Int32.toNatClampNeg (i + 1))))
  refine W.eq (g2 := F0 m 688 ls ((([.int (xs (Int32.toNatClampNeg (i + 1)))] : List Value).map (j_rv g)).reverse ++ .ref (ad 9) :: [])) rfl ?_
  refine j_lawV hC (as := [.int (xs (Int32.toNatClampNeg (i + 1)))]) (a := 9) (rest := []) r1 dl_688 (j := 118) (Nat.le_of_ble_eq_true rfl) (by decide +kernel) (j_has_in (c := 4) (o := 177) (by decide +kernel)) (Nat.le_of_ble_eq_true rfl) HP_x (show 1 = j_np 118 from by decide +kernel) (show (lg_sl _).length ≤ 2 from Nat.le_of_ble_eq_true rfl) (Nat.le_of_ble_eq_true rfl) (show 8 + (2 + 11) + 20000 ≤ 84000 from Nat.le_of_ble_eq_true rfl) (Nat.le_of_ble_eq_true rfl) hl.1 hH hS hc hs (fun H1 locs1 hH1 hS1 => ?_)
  show W p l e room_1 s m #[Value.ref b] below meth c H1 locs1 _ _ (lw_Z below #[Value.ref b] s) (F0 m 691 ls [iV w1])
  have hS := hS1
  refine lv_pop hx hb dl_691 rfl ?_
  refine lv_aload_n hx hb dl_692 rfl (lv_at hl 2 rfl) ?_
  refine lv_aload_n hx hb dl_693 rfl (lv_at hl 0 rfl) ?_
  refine lv_iload_n hx hb dl_694 rfl (lv_at hl 3 rfl) ?_
  refine lv_iconst (v := 1) hx hb dl_695 (by decide) ?_
  refine lv_iadd hx hb dl_696 ?_
  refine va_sld hx hb hX hbl hbA hS (i := (i + 1)) (hv 1 (by decide)) dl_697 ?_
  refine W.eq (g2 := F0 m 698 ls ((([.int (xs (Int32.toNatClampNeg (i + 1)))] : List Value).map (j_rv g)).reverse ++ .ref (ad 117) :: [])) rfl ?_
  refine j_lawV hC (as := [.int (xs (Int32.toNatClampNeg (i + 1)))]) (a := 117) (rest := []) r2 dl_698 (j := 291) (Nat.le_of_ble_eq_true rfl) (by decide +kernel) (j_has_in (c := 8) (o := 233) (by decide +kernel)) (Nat.le_of_ble_eq_true rfl) HP_m (show 1 = j_np 291 from by decide +kernel) (show (lg_sl _).length ≤ 2 from Nat.le_of_ble_eq_true rfl) (Nat.le_of_ble_eq_true rfl) (show 8 + (2 + 11) + 20000 ≤ 84000 from Nat.le_of_ble_eq_true rfl) (Nat.le_of_ble_eq_true rfl) hl.1 hH1 hS hc hs (fun H2 locs2 hH2 hS2 => ?_)
  show W p l e room_1 s m #[Value.ref b] below meth c H2 locs2 _ _ (lw_Z below #[Value.ref b] s) (F0 m 701 ls [iV w2])
  have hS := hS2
  refine lv_pop hx hb dl_701 rfl ?_
  refine lv_goto (tgt := 1225) hx hb dl_702 (by decide) ?_
  refine lv_iinc (v := i + Int32.ofInt 6) (lv' := [(3, .int (i + Int32.ofInt 6)), (0, .ref b), (1, .ref (ad 9)), (2, .ref (ad 117))]) hx hb dl_1225 hl (k := 3) rfl rfl (by decide) rfl (fun ls hl => ?_)
  refine lv_goto (tgt := 18) hx hb dl_1228 (by decide) ?_
  exact K _ _ _ _ I2 hH2 hS hl
set_option maxHeartbeats 4000000 in
theorem law_c17 {p : Program} {l : Launch} {e : Env} {s : State} {m : MethodId} {below : List Frame} {meth : Method} {c : Code} {b L : Nat} {xs : Nat → Int32} {g : Nat → Value} {ad : Nat → Nat} {D : va_G} {cA : Nat → ClassId} {H : Heap} {locs : List Loc} {cells slots : Nat} {ls : Array Slot} {i : Int32} {σ : jM} (C0 : lw_At p s m meth c b L xs) (hC : j_Cx g ad s.heap.size D cA vwCl j_TW j_zs j_ks "HundredWordsLaw" "law" code 4 p s m #[.ref b] meth c) (hv : ∀ d : Nat, d ≤ 5 → vp_in (i + Int32.ofNat d) L) (I : Inv σ) (hH : j_H g ad s.heap.size D cA vwCl s H (HP σ)) (hS : va_S (j_A s.heap.size) s.heap H locs) (hc : cells ≤ 600000) (hs : slots ≤ 7302250) (hl : lv_has ls 4 [(0, .ref b), (1, .ref (ad 9)), (2, .ref (ad 117)), (3, .int i)]) (K : ∀ (H2 : Heap) (locs2 : List Loc) (ls2 : Array Slot) (ρ : jM), Inv ρ → j_H g ad s.heap.size D cA vwCl s H2 (HP ρ) → va_S (j_A s.heap.size) s.heap H2 locs2 → lv_has ls2 4 [(3, .int (i + Int32.ofInt 6)), (0, .ref b), (1, .ref (ad 9)), (2, .ref (ad 117))] → W p l e room_1 s m #[Value.ref b] below meth c H2 locs2 cells slots (lw_Z below #[Value.ref b] s) (F0 m 18 ls2 [])) : W p l e room_1 s m #[Value.ref b] below meth c H locs cells slots (lw_Z below #[Value.ref b] s) (F0 m 751 ls []) := by
  obtain ⟨hx, hb, hr, hml, hown, hts, hX, hbl, hlocks, hgv⟩ := id C0
  have hbA : ¬ j_A s.heap.size b := Nat.not_le.mpr hbl
  refine lv_aload_n hx hb dl_751 rfl (lv_at hl 1 rfl) ?_
  refine lv_aload_n hx hb dl_752 rfl (lv_at hl 0 rfl) ?_
  refine lv_iload_n hx hb dl_753 rfl (lv_at hl 3 rfl) ?_
  refine lv_iconst (v := 1) hx hb dl_754 (by decide) ?_
  refine lv_iadd hx hb dl_755 ?_
  refine va_sld hx hb hX hbl hbA hS (i := (i + 1)) (hv 1 (by decide)) dl_756 ?_
  obtain ⟨n1, n2, w1, w2, τ, ρ, r1, r2, I2⟩ := pm_changes I ((xs (Int32.toNatClampNeg (i + 1))))
  refine W.eq (g2 := F0 m 757 ls ((([.int (xs (Int32.toNatClampNeg (i + 1)))] : List Value).map (j_rv g)).reverse ++ .ref (ad 9) :: [])) rfl ?_
  refine j_lawV hC (as := [.int (xs (Int32.toNatClampNeg (i + 1)))]) (a := 9) (rest := []) r1 dl_757 (j := 122) (Nat.le_of_ble_eq_true rfl) (by decide +kernel) (j_has_in (c := 4) (o := 193) (by decide +kernel)) (Nat.le_of_ble_eq_true rfl) HP_x (show 1 = j_np 122 from by decide +kernel) (show (lg_sl _).length ≤ 2 from Nat.le_of_ble_eq_true rfl) (Nat.le_of_ble_eq_true rfl) (show 8 + (2 + 11) + 20000 ≤ 84000 from Nat.le_of_ble_eq_true rfl) (Nat.le_of_ble_eq_true rfl) hl.1 hH hS hc hs (fun H1 locs1 hH1 hS1 => ?_)
  show W p l e room_1 s m #[Value.ref b] below meth c H1 locs1 _ _ (lw_Z below #[Value.ref b] s) (F0 m 760 ls [iV w1])
  have hS := hS1
  refine lv_pop hx hb dl_760 rfl ?_
  refine lv_aload_n hx hb dl_761 rfl (lv_at hl 2 rfl) ?_
  refine lv_aload_n hx hb dl_762 rfl (lv_at hl 0 rfl) ?_
  refine lv_iload_n hx hb dl_763 rfl (lv_at hl 3 rfl) ?_
  refine lv_iconst (v := 1) hx hb dl_764 (by decide) ?_
  refine lv_iadd hx hb dl_765 ?_
  refine va_sld hx hb hX hbl hbA hS (i := (i + 1)) (hv 1 (by decide)) dl_766 ?_
  refine W.eq (g2 := F0 m 767 ls ((([.int (xs (Int32.toNatClampNeg (i + 1)))] : List Value).map (j_rv g)).reverse ++ .ref (ad 117) :: [])) rfl ?_
  refine j_lawV hC (as := [.int (xs (Int32.toNatClampNeg (i + 1)))]) (a := 117) (rest := []) r2 dl_767 (j := 293) (Nat.le_of_ble_eq_true rfl) (by decide +kernel) (j_has_in (c := 9) (o := 1) (by decide +kernel)) (Nat.le_of_ble_eq_true rfl) HP_m (show 1 = j_np 293 from by decide +kernel) (show (lg_sl _).length ≤ 5 from Nat.le_of_ble_eq_true rfl) (Nat.le_of_ble_eq_true rfl) (show 8 + (5 + 11) + 20000 ≤ 84000 from Nat.le_of_ble_eq_true rfl) (Nat.le_of_ble_eq_true rfl) hl.1 hH1 hS hc hs (fun H2 locs2 hH2 hS2 => ?_)
  show W p l e room_1 s m #[Value.ref b] below meth c H2 locs2 _ _ (lw_Z below #[Value.ref b] s) (F0 m 770 ls [iV w2])
  have hS := hS2
  refine lv_pop hx hb dl_770 rfl ?_
  refine lv_goto (tgt := 1225) hx hb dl_771 (by decide) ?_
  refine lv_iinc (v := i + Int32.ofInt 6) (lv' := [(3, .int (i + Int32.ofInt 6)), (0, .ref b), (1, .ref (ad 9)), (2, .ref (ad 117))]) hx hb dl_1225 hl (k := 3) rfl rfl (by decide) rfl (fun ls hl => ?_)
  refine lv_goto (tgt := 18) hx hb dl_1228 (by decide) ?_
  exact K _ _ _ _ I2 hH2 hS hl
set_option maxHeartbeats 4000000 in
theorem law_c20 {p : Program} {l : Launch} {e : Env} {s : State} {m : MethodId} {below : List Frame} {meth : Method} {c : Code} {b L : Nat} {xs : Nat → Int32} {g : Nat → Value} {ad : Nat → Nat} {D : va_G} {cA : Nat → ClassId} {H : Heap} {locs : List Loc} {cells slots : Nat} {ls : Array Slot} {i : Int32} {σ : jM} (C0 : lw_At p s m meth c b L xs) (hC : j_Cx g ad s.heap.size D cA vwCl j_TW j_zs j_ks "HundredWordsLaw" "law" code 4 p s m #[.ref b] meth c) (hv : ∀ d : Nat, d ≤ 5 → vp_in (i + Int32.ofNat d) L) (I : Inv σ) (hH : j_H g ad s.heap.size D cA vwCl s H (HP σ)) (hS : va_S (j_A s.heap.size) s.heap H locs) (hc : cells ≤ 600000) (hs : slots ≤ 7302250) (hl : lv_has ls 4 [(0, .ref b), (1, .ref (ad 9)), (2, .ref (ad 117)), (3, .int i)]) (K : ∀ (H2 : Heap) (locs2 : List Loc) (ls2 : Array Slot) (ρ : jM), Inv ρ → j_H g ad s.heap.size D cA vwCl s H2 (HP ρ) → va_S (j_A s.heap.size) s.heap H2 locs2 → lv_has ls2 4 [(3, .int (i + Int32.ofInt 6)), (0, .ref b), (1, .ref (ad 9)), (2, .ref (ad 117))] → W p l e room_1 s m #[Value.ref b] below meth c H2 locs2 cells slots (lw_Z below #[Value.ref b] s) (F0 m 18 ls2 [])) : W p l e room_1 s m #[Value.ref b] below meth c H locs cells slots (lw_Z below #[Value.ref b] s) (F0 m 836 ls []) := by
  obtain ⟨hx, hb, hr, hml, hown, hts, hX, hbl, hlocks, hgv⟩ := id C0
  have hbA : ¬ j_A s.heap.size b := Nat.not_le.mpr hbl
  refine lv_aload_n hx hb dl_836 rfl (lv_at hl 1 rfl) ?_
  refine lv_aload_n hx hb dl_837 rfl (lv_at hl 0 rfl) ?_
  refine lv_iload_n hx hb dl_838 rfl (lv_at hl 3 rfl) ?_
  refine lv_iconst (v := 1) hx hb dl_839 (by decide) ?_
  refine lv_iadd hx hb dl_840 ?_
  refine va_sld hx hb hX hbl hbA hS (i := (i + 1)) (hv 1 (by decide)) dl_841 ?_
  refine lv_aload_n hx hb dl_842 rfl (lv_at hl 0 rfl) ?_
  refine lv_iload_n hx hb dl_843 rfl (lv_at hl 3 rfl) ?_
  refine lv_iconst (v := 2) hx hb dl_844 (by decide) ?_
  refine lv_iadd hx hb dl_845 ?_
  refine va_sld hx hb hX hbl hbA hS (i := (i + 2)) (hv 2 (by decide)) dl_846 ?_
  obtain ⟨n1, n2, w1, w2, τ, ρ, r1, r2, I2⟩ := pm_brief I ((xs (Int32.toNatClampNeg (i + 1)))) ((xs (Int32.toNatClampNeg (i + 2))))
  refine W.eq (g2 := F0 m 847 ls ((([.int (xs (Int32.toNatClampNeg (i + 1))), .int (xs (Int32.toNatClampNeg (i + 2)))] : List Value).map (j_rv g)).reverse ++ .ref (ad 9) :: [])) rfl ?_
  refine j_lawV hC (as := [.int (xs (Int32.toNatClampNeg (i + 1))), .int (xs (Int32.toNatClampNeg (i + 2)))]) (a := 9) (rest := []) r1 dl_847 (j := 142) (Nat.le_of_ble_eq_true rfl) (by decide +kernel) (j_has_in (c := 5) (o := 36) (by decide +kernel)) (Nat.le_of_ble_eq_true rfl) HP_x (show 2 = j_np 142 from by decide +kernel) (show (lg_sl _).length ≤ 3 from Nat.le_of_ble_eq_true rfl) (Nat.le_of_ble_eq_true rfl) (show 8 + (3 + 11) + 20000 ≤ 84000 from Nat.le_of_ble_eq_true rfl) (Nat.le_of_ble_eq_true rfl) hl.1 hH hS hc hs (fun H1 locs1 hH1 hS1 => ?_)
  show W p l e room_1 s m #[Value.ref b] below meth c H1 locs1 _ _ (lw_Z below #[Value.ref b] s) (F0 m 850 ls [iV w1])
  have hS := hS1
  refine lv_pop hx hb dl_850 rfl ?_
  refine lv_aload_n hx hb dl_851 rfl (lv_at hl 2 rfl) ?_
  refine lv_aload_n hx hb dl_852 rfl (lv_at hl 0 rfl) ?_
  refine lv_iload_n hx hb dl_853 rfl (lv_at hl 3 rfl) ?_
  refine lv_iconst (v := 1) hx hb dl_854 (by decide) ?_
  refine lv_iadd hx hb dl_855 ?_
  refine va_sld hx hb hX hbl hbA hS (i := (i + 1)) (hv 1 (by decide)) dl_856 ?_
  refine lv_aload_n hx hb dl_857 rfl (lv_at hl 0 rfl) ?_
  refine lv_iload_n hx hb dl_858 rfl (lv_at hl 3 rfl) ?_
  refine lv_iconst (v := 2) hx hb dl_859 (by decide) ?_
  refine lv_iadd hx hb dl_860 ?_
  refine va_sld hx hb hX hbl hbA hS (i := (i + 2)) (hv 2 (by decide)) dl_861 ?_
  refine W.eq (g2 := F0 m 862 ls ((([.int (xs (Int32.toNatClampNeg (i + 1))), .int (xs (Int32.toNatClampNeg (i + 2)))] : List Value).map (j_rv g)).reverse ++ .ref (ad 117) :: [])) rfl ?_
  refine j_lawV hC (as := [.int (xs (Int32.toNatClampNeg (i + 1))), .int (xs (Int32.toNatClampNeg (i + 2)))]) (a := 117) (rest := []) r2 dl_862 (j := 298) (Nat.le_of_ble_eq_true rfl) (by decide +kernel) (j_has_in (c := 9) (o := 23) (by decide +kernel)) (Nat.le_of_ble_eq_true rfl) HP_m (show 2 = j_np 298 from by decide +kernel) (show (lg_sl _).length ≤ 3 from Nat.le_of_ble_eq_true rfl) (Nat.le_of_ble_eq_true rfl) (show 8 + (3 + 11) + 20000 ≤ 84000 from Nat.le_of_ble_eq_true rfl) (Nat.le_of_ble_eq_true rfl) hl.1 hH1 hS hc hs (fun H2 locs2 hH2 hS2 => ?_)
  show W p l e room_1 s m #[Value.ref b] below meth c H2 locs2 _ _ (lw_Z below #[Value.ref b] s) (F0 m 865 ls [iV w2])
  have hS := hS2
  refine lv_pop hx hb dl_865 rfl ?_
  refine lv_goto (tgt := 1225) hx hb dl_866 (by decide) ?_
  refine lv_iinc (v := i + Int32.ofInt 6) (lv' := [(3, .int (i + Int32.ofInt 6)), (0, .ref b), (1, .ref (ad 9)), (2, .ref (ad 117))]) hx hb dl_1225 hl (k := 3) rfl rfl (by decide) rfl (fun ls hl => ?_)
  refine lv_goto (tgt := 18) hx hb dl_1228 (by decide) ?_
  exact K _ _ _ _ I2 hH2 hS hl
set_option maxHeartbeats 4000000 in
theorem law_c23 {p : Program} {l : Launch} {e : Env} {s : State} {m : MethodId} {below : List Frame} {meth : Method} {c : Code} {b L : Nat} {xs : Nat → Int32} {g : Nat → Value} {ad : Nat → Nat} {D : va_G} {cA : Nat → ClassId} {H : Heap} {locs : List Loc} {cells slots : Nat} {ls : Array Slot} {i : Int32} {σ : jM} (C0 : lw_At p s m meth c b L xs) (hC : j_Cx g ad s.heap.size D cA vwCl j_TW j_zs j_ks "HundredWordsLaw" "law" code 4 p s m #[.ref b] meth c) (hv : ∀ d : Nat, d ≤ 5 → vp_in (i + Int32.ofNat d) L) (I : Inv σ) (hH : j_H g ad s.heap.size D cA vwCl s H (HP σ)) (hS : va_S (j_A s.heap.size) s.heap H locs) (hc : cells ≤ 600000) (hs : slots ≤ 7302250) (hl : lv_has ls 4 [(0, .ref b), (1, .ref (ad 9)), (2, .ref (ad 117)), (3, .int i)]) (K : ∀ (H2 : Heap) (locs2 : List Loc) (ls2 : Array Slot) (ρ : jM), Inv ρ → j_H g ad s.heap.size D cA vwCl s H2 (HP ρ) → va_S (j_A s.heap.size) s.heap H2 locs2 → lv_has ls2 4 [(3, .int (i + Int32.ofInt 6)), (0, .ref b), (1, .ref (ad 9)), (2, .ref (ad 117))] → W p l e room_1 s m #[Value.ref b] below meth c H2 locs2 cells slots (lw_Z below #[Value.ref b] s) (F0 m 18 ls2 [])) : W p l e room_1 s m #[Value.ref b] below meth c H locs cells slots (lw_Z below #[Value.ref b] s) (F0 m 931 ls []) := by
  obtain ⟨hx, hb, hr, hml, hown, hts, hX, hbl, hlocks, hgv⟩ := id C0
  have hbA : ¬ j_A s.heap.size b := Nat.not_le.mpr hbl
  refine lv_aload_n hx hb dl_931 rfl (lv_at hl 1 rfl) ?_
  obtain ⟨n1, n2, w1, w2, τ, ρ, r1, r2, I2⟩ := pm_parts I 
  refine W.eq (g2 := F0 m 932 ls ((([] : List Value).map (j_rv g)).reverse ++ .ref (ad 9) :: [])) rfl ?_
  refine j_lawV hC (as := []) (a := 9) (rest := []) r1 dl_932 (j := 153) (Nat.le_of_ble_eq_true rfl) (by decide +kernel) (j_has_in (c := 5) (o := 84) (by decide +kernel)) (Nat.le_of_ble_eq_true rfl) HP_x (show 0 = j_np 153 from by decide +kernel) (show (lg_sl _).length ≤ 1 from Nat.le_of_ble_eq_true rfl) (Nat.le_of_ble_eq_true rfl) (show 8 + (1 + 11) + 20000 ≤ 84000 from Nat.le_of_ble_eq_true rfl) (Nat.le_of_ble_eq_true rfl) hl.1 hH hS hc hs (fun H1 locs1 hH1 hS1 => ?_)
  show W p l e room_1 s m #[Value.ref b] below meth c H1 locs1 _ _ (lw_Z below #[Value.ref b] s) (F0 m 935 ls [iV w1])
  have hS := hS1
  refine lv_pop hx hb dl_935 rfl ?_
  refine lv_aload_n hx hb dl_936 rfl (lv_at hl 2 rfl) ?_
  refine W.eq (g2 := F0 m 937 ls ((([] : List Value).map (j_rv g)).reverse ++ .ref (ad 117) :: [])) rfl ?_
  refine j_lawV hC (as := []) (a := 117) (rest := []) r2 dl_937 (j := 310) (Nat.le_of_ble_eq_true rfl) (by decide +kernel) (j_has_in (c := 9) (o := 69) (by decide +kernel)) (Nat.le_of_ble_eq_true rfl) HP_m (show 0 = j_np 310 from by decide +kernel) (show (lg_sl _).length ≤ 1 from Nat.le_of_ble_eq_true rfl) (Nat.le_of_ble_eq_true rfl) (show 8 + (1 + 11) + 20000 ≤ 84000 from Nat.le_of_ble_eq_true rfl) (Nat.le_of_ble_eq_true rfl) hl.1 hH1 hS hc hs (fun H2 locs2 hH2 hS2 => ?_)
  show W p l e room_1 s m #[Value.ref b] below meth c H2 locs2 _ _ (lw_Z below #[Value.ref b] s) (F0 m 940 ls [iV w2])
  have hS := hS2
  refine lv_pop hx hb dl_940 rfl ?_
  refine lv_goto (tgt := 1225) hx hb dl_941 (by decide) ?_
  refine lv_iinc (v := i + Int32.ofInt 6) (lv' := [(3, .int (i + Int32.ofInt 6)), (0, .ref b), (1, .ref (ad 9)), (2, .ref (ad 117))]) hx hb dl_1225 hl (k := 3) rfl rfl (by decide) rfl (fun ls hl => ?_)
  refine lv_goto (tgt := 18) hx hb dl_1228 (by decide) ?_
  exact K _ _ _ _ I2 hH2 hS hl
set_option maxHeartbeats 4000000 in
theorem law_c26 {p : Program} {l : Launch} {e : Env} {s : State} {m : MethodId} {below : List Frame} {meth : Method} {c : Code} {b L : Nat} {xs : Nat → Int32} {g : Nat → Value} {ad : Nat → Nat} {D : va_G} {cA : Nat → ClassId} {H : Heap} {locs : List Loc} {cells slots : Nat} {ls : Array Slot} {i : Int32} {σ : jM} (C0 : lw_At p s m meth c b L xs) (hC : j_Cx g ad s.heap.size D cA vwCl j_TW j_zs j_ks "HundredWordsLaw" "law" code 4 p s m #[.ref b] meth c) (hv : ∀ d : Nat, d ≤ 5 → vp_in (i + Int32.ofNat d) L) (I : Inv σ) (hH : j_H g ad s.heap.size D cA vwCl s H (HP σ)) (hS : va_S (j_A s.heap.size) s.heap H locs) (hc : cells ≤ 600000) (hs : slots ≤ 7302250) (hl : lv_has ls 4 [(0, .ref b), (1, .ref (ad 9)), (2, .ref (ad 117)), (3, .int i)]) (K : ∀ (H2 : Heap) (locs2 : List Loc) (ls2 : Array Slot) (ρ : jM), Inv ρ → j_H g ad s.heap.size D cA vwCl s H2 (HP ρ) → va_S (j_A s.heap.size) s.heap H2 locs2 → lv_has ls2 4 [(3, .int (i + Int32.ofInt 6)), (0, .ref b), (1, .ref (ad 9)), (2, .ref (ad 117))] → W p l e room_1 s m #[Value.ref b] below meth c H2 locs2 cells slots (lw_Z below #[Value.ref b] s) (F0 m 18 ls2 [])) : W p l e room_1 s m #[Value.ref b] below meth c H locs cells slots (lw_Z below #[Value.ref b] s) (F0 m 1032 ls []) := by
  obtain ⟨hx, hb, hr, hml, hown, hts, hX, hbl, hlocks, hgv⟩ := id C0
  have hbA : ¬ j_A s.heap.size b := Nat.not_le.mpr hbl
  refine lv_aload_n hx hb dl_1032 rfl (lv_at hl 1 rfl) ?_
  obtain ⟨n1, n2, w1, w2, τ, ρ, r1, r2, I2⟩ := pm_rest I 
  refine W.eq (g2 := F0 m 1033 ls ((([] : List Value).map (j_rv g)).reverse ++ .ref (ad 9) :: [])) rfl ?_
  refine j_lawV hC (as := []) (a := 9) (rest := []) r1 dl_1033 (j := 160) (Nat.le_of_ble_eq_true rfl) (by decide +kernel) (j_has_in (c := 5) (o := 113) (by decide +kernel)) (Nat.le_of_ble_eq_true rfl) HP_x (show 0 = j_np 160 from by decide +kernel) (show (lg_sl _).length ≤ 1 from Nat.le_of_ble_eq_true rfl) (Nat.le_of_ble_eq_true rfl) (show 8 + (1 + 11) + 20000 ≤ 84000 from Nat.le_of_ble_eq_true rfl) (Nat.le_of_ble_eq_true rfl) hl.1 hH hS hc hs (fun H1 locs1 hH1 hS1 => ?_)
  show W p l e room_1 s m #[Value.ref b] below meth c H1 locs1 _ _ (lw_Z below #[Value.ref b] s) (F0 m 1036 ls [iV w1])
  have hS := hS1
  refine lv_pop hx hb dl_1036 rfl ?_
  refine lv_aload_n hx hb dl_1037 rfl (lv_at hl 2 rfl) ?_
  refine W.eq (g2 := F0 m 1038 ls ((([] : List Value).map (j_rv g)).reverse ++ .ref (ad 117) :: [])) rfl ?_
  refine j_lawV hC (as := []) (a := 117) (rest := []) r2 dl_1038 (j := 316) (Nat.le_of_ble_eq_true rfl) (by decide +kernel) (j_has_in (c := 9) (o := 93) (by decide +kernel)) (Nat.le_of_ble_eq_true rfl) HP_m (show 0 = j_np 316 from by decide +kernel) (show (lg_sl _).length ≤ 1 from Nat.le_of_ble_eq_true rfl) (Nat.le_of_ble_eq_true rfl) (show 8 + (1 + 11) + 20000 ≤ 84000 from Nat.le_of_ble_eq_true rfl) (Nat.le_of_ble_eq_true rfl) hl.1 hH1 hS hc hs (fun H2 locs2 hH2 hS2 => ?_)
  show W p l e room_1 s m #[Value.ref b] below meth c H2 locs2 _ _ (lw_Z below #[Value.ref b] s) (F0 m 1041 ls [iV w2])
  have hS := hS2
  refine lv_pop hx hb dl_1041 rfl ?_
  refine lv_goto (tgt := 1225) hx hb dl_1042 (by decide) ?_
  refine lv_iinc (v := i + Int32.ofInt 6) (lv' := [(3, .int (i + Int32.ofInt 6)), (0, .ref b), (1, .ref (ad 9)), (2, .ref (ad 117))]) hx hb dl_1225 hl (k := 3) rfl rfl (by decide) rfl (fun ls hl => ?_)
  refine lv_goto (tgt := 18) hx hb dl_1228 (by decide) ?_
  exact K _ _ _ _ I2 hH2 hS hl
set_option maxHeartbeats 4000000 in
theorem law_c29 {p : Program} {l : Launch} {e : Env} {s : State} {m : MethodId} {below : List Frame} {meth : Method} {c : Code} {b L : Nat} {xs : Nat → Int32} {g : Nat → Value} {ad : Nat → Nat} {D : va_G} {cA : Nat → ClassId} {H : Heap} {locs : List Loc} {cells slots : Nat} {ls : Array Slot} {i : Int32} {σ : jM} (C0 : lw_At p s m meth c b L xs) (hC : j_Cx g ad s.heap.size D cA vwCl j_TW j_zs j_ks "HundredWordsLaw" "law" code 4 p s m #[.ref b] meth c) (hv : ∀ d : Nat, d ≤ 5 → vp_in (i + Int32.ofNat d) L) (I : Inv σ) (hH : j_H g ad s.heap.size D cA vwCl s H (HP σ)) (hS : va_S (j_A s.heap.size) s.heap H locs) (hc : cells ≤ 600000) (hs : slots ≤ 7302250) (hl : lv_has ls 4 [(0, .ref b), (1, .ref (ad 9)), (2, .ref (ad 117)), (3, .int i)]) (K : ∀ (H2 : Heap) (locs2 : List Loc) (ls2 : Array Slot) (ρ : jM), Inv ρ → j_H g ad s.heap.size D cA vwCl s H2 (HP ρ) → va_S (j_A s.heap.size) s.heap H2 locs2 → lv_has ls2 4 [(3, .int (i + Int32.ofInt 6)), (0, .ref b), (1, .ref (ad 9)), (2, .ref (ad 117))] → W p l e room_1 s m #[Value.ref b] below meth c H2 locs2 cells slots (lw_Z below #[Value.ref b] s) (F0 m 18 ls2 [])) : W p l e room_1 s m #[Value.ref b] below meth c H locs cells slots (lw_Z below #[Value.ref b] s) (F0 m 1091 ls []) := by
  obtain ⟨hx, hb, hr, hml, hown, hts, hX, hbl, hlocks, hgv⟩ := id C0
  have hbA : ¬ j_A s.heap.size b := Nat.not_le.mpr hbl
  refine lv_aload_n hx hb dl_1091 rfl (lv_at hl 1 rfl) ?_
  obtain ⟨n1, n2, w1, w2, τ, ρ, r1, r2, I2⟩ := pm_judged I 
  refine W.eq (g2 := F0 m 1092 ls ((([] : List Value).map (j_rv g)).reverse ++ .ref (ad 9) :: [])) rfl ?_
  refine j_lawV hC (as := []) (a := 9) (rest := []) r1 dl_1092 (j := 166) (Nat.le_of_ble_eq_true rfl) (by decide +kernel) (j_has_in (c := 5) (o := 137) (by decide +kernel)) (Nat.le_of_ble_eq_true rfl) HP_x (show 0 = j_np 166 from by decide +kernel) (show (lg_sl _).length ≤ 1 from Nat.le_of_ble_eq_true rfl) (Nat.le_of_ble_eq_true rfl) (show 8 + (1 + 11) + 20000 ≤ 84000 from Nat.le_of_ble_eq_true rfl) (Nat.le_of_ble_eq_true rfl) hl.1 hH hS hc hs (fun H1 locs1 hH1 hS1 => ?_)
  show W p l e room_1 s m #[Value.ref b] below meth c H1 locs1 _ _ (lw_Z below #[Value.ref b] s) (F0 m 1095 ls [iV w1])
  have hS := hS1
  refine lv_pop hx hb dl_1095 rfl ?_
  refine lv_aload_n hx hb dl_1096 rfl (lv_at hl 2 rfl) ?_
  refine W.eq (g2 := F0 m 1097 ls ((([] : List Value).map (j_rv g)).reverse ++ .ref (ad 117) :: [])) rfl ?_
  refine j_lawV hC (as := []) (a := 117) (rest := []) r2 dl_1097 (j := 321) (Nat.le_of_ble_eq_true rfl) (by decide +kernel) (j_has_in (c := 9) (o := 114) (by decide +kernel)) (Nat.le_of_ble_eq_true rfl) HP_m (show 0 = j_np 321 from by decide +kernel) (show (lg_sl _).length ≤ 4 from Nat.le_of_ble_eq_true rfl) (Nat.le_of_ble_eq_true rfl) (show 8 + (4 + 11) + 20000 ≤ 84000 from Nat.le_of_ble_eq_true rfl) (Nat.le_of_ble_eq_true rfl) hl.1 hH1 hS hc hs (fun H2 locs2 hH2 hS2 => ?_)
  show W p l e room_1 s m #[Value.ref b] below meth c H2 locs2 _ _ (lw_Z below #[Value.ref b] s) (F0 m 1100 ls [iV w2])
  have hS := hS2
  refine lv_pop hx hb dl_1100 rfl ?_
  refine lv_goto (tgt := 1225) hx hb dl_1101 (by decide) ?_
  refine lv_iinc (v := i + Int32.ofInt 6) (lv' := [(3, .int (i + Int32.ofInt 6)), (0, .ref b), (1, .ref (ad 9)), (2, .ref (ad 117))]) hx hb dl_1225 hl (k := 3) rfl rfl (by decide) rfl (fun ls hl => ?_)
  refine lv_goto (tgt := 18) hx hb dl_1228 (by decide) ?_
  exact K _ _ _ _ I2 hH2 hS hl
set_option maxHeartbeats 4000000 in
theorem law_c32 {p : Program} {l : Launch} {e : Env} {s : State} {m : MethodId} {below : List Frame} {meth : Method} {c : Code} {b L : Nat} {xs : Nat → Int32} {g : Nat → Value} {ad : Nat → Nat} {D : va_G} {cA : Nat → ClassId} {H : Heap} {locs : List Loc} {cells slots : Nat} {ls : Array Slot} {i : Int32} {σ : jM} (C0 : lw_At p s m meth c b L xs) (hC : j_Cx g ad s.heap.size D cA vwCl j_TW j_zs j_ks "HundredWordsLaw" "law" code 4 p s m #[.ref b] meth c) (hv : ∀ d : Nat, d ≤ 5 → vp_in (i + Int32.ofNat d) L) (I : Inv σ) (hH : j_H g ad s.heap.size D cA vwCl s H (HP σ)) (hS : va_S (j_A s.heap.size) s.heap H locs) (hc : cells ≤ 600000) (hs : slots ≤ 7302250) (hl : lv_has ls 4 [(0, .ref b), (1, .ref (ad 9)), (2, .ref (ad 117)), (3, .int i)]) (K : ∀ (H2 : Heap) (locs2 : List Loc) (ls2 : Array Slot) (ρ : jM), Inv ρ → j_H g ad s.heap.size D cA vwCl s H2 (HP ρ) → va_S (j_A s.heap.size) s.heap H2 locs2 → lv_has ls2 4 [(3, .int (i + Int32.ofInt 6)), (0, .ref b), (1, .ref (ad 9)), (2, .ref (ad 117))] → W p l e room_1 s m #[Value.ref b] below meth c H2 locs2 cells slots (lw_Z below #[Value.ref b] s) (F0 m 18 ls2 [])) : W p l e room_1 s m #[Value.ref b] below meth c H locs cells slots (lw_Z below #[Value.ref b] s) (F0 m 1140 ls []) := by
  obtain ⟨hx, hb, hr, hml, hown, hts, hX, hbl, hlocks, hgv⟩ := id C0
  have hbA : ¬ j_A s.heap.size b := Nat.not_le.mpr hbl
  refine lv_aload_n hx hb dl_1140 rfl (lv_at hl 1 rfl) ?_
  obtain ⟨n1, n2, w1, w2, τ, ρ, r1, r2, I2⟩ := pm_ask I 
  refine W.eq (g2 := F0 m 1141 ls ((([] : List Value).map (j_rv g)).reverse ++ .ref (ad 9) :: [])) rfl ?_
  refine j_lawV hC (as := []) (a := 9) (rest := []) r1 dl_1141 (j := 171) (Nat.le_of_ble_eq_true rfl) (by decide +kernel) (j_has_in (c := 5) (o := 161) (by decide +kernel)) (Nat.le_of_ble_eq_true rfl) HP_x (show 0 = j_np 171 from by decide +kernel) (show (lg_sl _).length ≤ 2 from Nat.le_of_ble_eq_true rfl) (Nat.le_of_ble_eq_true rfl) (show 8 + (2 + 11) + 20000 ≤ 84000 from Nat.le_of_ble_eq_true rfl) (Nat.le_of_ble_eq_true rfl) hl.1 hH hS hc hs (fun H1 locs1 hH1 hS1 => ?_)
  show W p l e room_1 s m #[Value.ref b] below meth c H1 locs1 _ _ (lw_Z below #[Value.ref b] s) (F0 m 1144 ls [.long w1])
  have hS := hS1
  refine lv_pop2_2 hx hb dl_1144 rfl ?_
  refine lv_aload_n hx hb dl_1145 rfl (lv_at hl 2 rfl) ?_
  refine W.eq (g2 := F0 m 1146 ls ((([] : List Value).map (j_rv g)).reverse ++ .ref (ad 117) :: [])) rfl ?_
  refine j_lawV hC (as := []) (a := 117) (rest := []) r2 dl_1146 (j := 324) (Nat.le_of_ble_eq_true rfl) (by decide +kernel) (j_has_in (c := 9) (o := 130) (by decide +kernel)) (Nat.le_of_ble_eq_true rfl) HP_m (show 0 = j_np 324 from by decide +kernel) (show (lg_sl _).length ≤ 3 from Nat.le_of_ble_eq_true rfl) (Nat.le_of_ble_eq_true rfl) (show 8 + (3 + 11) + 20000 ≤ 84000 from Nat.le_of_ble_eq_true rfl) (Nat.le_of_ble_eq_true rfl) hl.1 hH1 hS hc hs (fun H2 locs2 hH2 hS2 => ?_)
  show W p l e room_1 s m #[Value.ref b] below meth c H2 locs2 _ _ (lw_Z below #[Value.ref b] s) (F0 m 1149 ls [.long w2])
  have hS := hS2
  refine lv_pop2_2 hx hb dl_1149 rfl ?_
  refine lv_goto (tgt := 1225) hx hb dl_1150 (by decide) ?_
  refine lv_iinc (v := i + Int32.ofInt 6) (lv' := [(3, .int (i + Int32.ofInt 6)), (0, .ref b), (1, .ref (ad 9)), (2, .ref (ad 117))]) hx hb dl_1225 hl (k := 3) rfl rfl (by decide) rfl (fun ls hl => ?_)
  refine lv_goto (tgt := 18) hx hb dl_1228 (by decide) ?_
  exact K _ _ _ _ I2 hH2 hS hl
set_option maxHeartbeats 4000000 in
theorem law_c35 {p : Program} {l : Launch} {e : Env} {s : State} {m : MethodId} {below : List Frame} {meth : Method} {c : Code} {b L : Nat} {xs : Nat → Int32} {g : Nat → Value} {ad : Nat → Nat} {D : va_G} {cA : Nat → ClassId} {H : Heap} {locs : List Loc} {cells slots : Nat} {ls : Array Slot} {i : Int32} {σ : jM} (C0 : lw_At p s m meth c b L xs) (hC : j_Cx g ad s.heap.size D cA vwCl j_TW j_zs j_ks "HundredWordsLaw" "law" code 4 p s m #[.ref b] meth c) (hv : ∀ d : Nat, d ≤ 5 → vp_in (i + Int32.ofNat d) L) (I : Inv σ) (hH : j_H g ad s.heap.size D cA vwCl s H (HP σ)) (hS : va_S (j_A s.heap.size) s.heap H locs) (hc : cells ≤ 600000) (hs : slots ≤ 7302250) (hl : lv_has ls 4 [(0, .ref b), (1, .ref (ad 9)), (2, .ref (ad 117)), (3, .int i)]) (K : ∀ (H2 : Heap) (locs2 : List Loc) (ls2 : Array Slot) (ρ : jM), Inv ρ → j_H g ad s.heap.size D cA vwCl s H2 (HP ρ) → va_S (j_A s.heap.size) s.heap H2 locs2 → lv_has ls2 4 [(3, .int (i + Int32.ofInt 6)), (0, .ref b), (1, .ref (ad 9)), (2, .ref (ad 117))] → W p l e room_1 s m #[Value.ref b] below meth c H2 locs2 cells slots (lw_Z below #[Value.ref b] s) (F0 m 18 ls2 [])) : W p l e room_1 s m #[Value.ref b] below meth c H locs cells slots (lw_Z below #[Value.ref b] s) (F0 m 1189 ls []) := by
  obtain ⟨hx, hb, hr, hml, hown, hts, hX, hbl, hlocks, hgv⟩ := id C0
  have hbA : ¬ j_A s.heap.size b := Nat.not_le.mpr hbl
  refine lv_aload_n hx hb dl_1189 rfl (lv_at hl 1 rfl) ?_
  obtain ⟨n1, n2, w1, w2, τ, ρ, r1, r2, I2⟩ := pm_restore I 
  refine W.eq (g2 := F0 m 1190 ls ((([] : List Value).map (j_rv g)).reverse ++ .ref (ad 9) :: [])) rfl ?_
  refine j_lawV hC (as := []) (a := 9) (rest := []) r1 dl_1190 (j := 206) (Nat.le_of_ble_eq_true rfl) (by decide +kernel) (j_has_in (c := 6) (o := 70) (by decide +kernel)) (Nat.le_of_ble_eq_true rfl) HP_x (show 0 = j_np 206 from by decide +kernel) (show (lg_sl _).length ≤ 2 from Nat.le_of_ble_eq_true rfl) (Nat.le_of_ble_eq_true rfl) (show 8 + (2 + 11) + 20000 ≤ 84000 from Nat.le_of_ble_eq_true rfl) (Nat.le_of_ble_eq_true rfl) hl.1 hH hS hc hs (fun H1 locs1 hH1 hS1 => ?_)
  show W p l e room_1 s m #[Value.ref b] below meth c H1 locs1 _ _ (lw_Z below #[Value.ref b] s) (F0 m 1193 ls [iV w1])
  have hS := hS1
  refine lv_pop hx hb dl_1193 rfl ?_
  refine lv_aload_n hx hb dl_1194 rfl (lv_at hl 2 rfl) ?_
  refine W.eq (g2 := F0 m 1195 ls ((([] : List Value).map (j_rv g)).reverse ++ .ref (ad 117) :: [])) rfl ?_
  refine j_lawV hC (as := []) (a := 117) (rest := []) r2 dl_1195 (j := 357) (Nat.le_of_ble_eq_true rfl) (by decide +kernel) (j_has_in (c := 10) (o := 21) (by decide +kernel)) (Nat.le_of_ble_eq_true rfl) HP_m (show 0 = j_np 357 from by decide +kernel) (show (lg_sl _).length ≤ 4 from Nat.le_of_ble_eq_true rfl) (Nat.le_of_ble_eq_true rfl) (show 8 + (4 + 11) + 20000 ≤ 84000 from Nat.le_of_ble_eq_true rfl) (Nat.le_of_ble_eq_true rfl) hl.1 hH1 hS hc hs (fun H2 locs2 hH2 hS2 => ?_)
  show W p l e room_1 s m #[Value.ref b] below meth c H2 locs2 _ _ (lw_Z below #[Value.ref b] s) (F0 m 1198 ls [iV w2])
  have hS := hS2
  refine lv_pop hx hb dl_1198 rfl ?_
  refine lv_goto (tgt := 1225) hx hb dl_1199 (by decide) ?_
  refine lv_iinc (v := i + Int32.ofInt 6) (lv' := [(3, .int (i + Int32.ofInt 6)), (0, .ref b), (1, .ref (ad 9)), (2, .ref (ad 117))]) hx hb dl_1225 hl (k := 3) rfl rfl (by decide) rfl (fun ls hl => ?_)
  refine lv_goto (tgt := 18) hx hb dl_1228 (by decide) ?_
  exact K _ _ _ _ I2 hH2 hS hl
