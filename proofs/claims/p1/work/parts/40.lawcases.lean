theorem law_end {p : Program} {l : Launch} {e : Env} {s : State} {m : MethodId} {below : List Frame} {meth : Method} {c : Code} {b L : Nat} {xs : Nat → Int32} {g : Nat → Value} {ad : Nat → Nat} {D : va_G} {cA : Nat → ClassId} {H : Heap} {locs : List Loc} {cells slots : Nat} {ls : Array Slot} (C0 : lw_At p s m meth c b L xs) (hC : j_Cx g ad s.heap.size D cA vwCl j_TW j_zs j_ks "HundredWordsLaw" "law" code 4 p s m #[.ref b] meth c) (hL : L = 6) (hS : va_S (j_A s.heap.size) s.heap H locs) (hc : cells ≤ 600000) (hs : slots ≤ 7302250) (hl : lv_has ls 4 [(3, .int 6), (0, .ref b)]) : W p l e room_1 s m #[Value.ref b] below meth c H locs cells slots (lw_Z below #[Value.ref b] s) (F0 m 18 ls []) := by
  obtain ⟨hx, hb, hr, hml, hown, hts, hX, hbl, hlocks, hgv⟩ := id C0
  have hbA : ¬ j_A s.heap.size b := Nat.not_le.mpr hbl
  subst hL
  refine lv_iload_n hx hb dl_18 rfl (lv_at hl 0 rfl) ?_
  refine lv_aload_n hx hb dl_19 rfl (lv_at hl 1 rfl) ?_
  refine va_slen hx hb hX hbl hbA hS dl_20 ?_
  refine lv_bipush hx hb dl_21 rfl ?_
  refine lv_isub hx hb dl_23 ?_
  refine lv_icmp_gt (tgt := 1232) hx hb dl_24 (by decide) (fun hq => ?_) (fun hq => ?_)
  · refine lv_iconst (v := 1) hx hb dl_1232 (by decide) ?_
    exact j_lawRet hx hb hr hlocks dl_1233 hS hc hs
  · exact absurd (by decide) hq
set_option maxHeartbeats 4000000 in
theorem law_c0 {p : Program} {l : Launch} {e : Env} {s : State} {m : MethodId} {below : List Frame} {meth : Method} {c : Code} {b L : Nat} {xs : Nat → Int32} {g : Nat → Value} {ad : Nat → Nat} {D : va_G} {cA : Nat → ClassId} {H : Heap} {locs : List Loc} {cells slots : Nat} {ls : Array Slot} (C0 : lw_At p s m meth c b L xs) (hC : j_Cx g ad s.heap.size D cA vwCl j_TW j_zs j_ks "HundredWordsLaw" "law" code 4 p s m #[.ref b] meth c) (hL : L = 6) (hH : j_H g ad s.heap.size D cA vwCl s H jh2) (hS : va_S (j_A s.heap.size) s.heap H locs) (hc : cells ≤ 600000) (hs : slots ≤ 7302250) (hl : lv_has ls 4 [(0, .ref b), (1, .ref (ad 9)), (2, .ref (ad 117)), (3, .int 0)]) : W p l e room_1 s m #[Value.ref b] below meth c H locs cells slots (lw_Z below #[Value.ref b] s) (F0 m 196 ls []) := by
  obtain ⟨hx, hb, hr, hml, hown, hts, hX, hbl, hlocks, hgv⟩ := id C0
  have hbA : ¬ j_A s.heap.size b := Nat.not_le.mpr hbl
  refine lv_aload_n hx hb dl_196 rfl (lv_at hl 1 rfl) ?_
  refine lv_aload_n hx hb dl_197 rfl (lv_at hl 0 rfl) ?_
  refine lv_iload_n hx hb dl_198 rfl (lv_at hl 3 rfl) ?_
  refine lv_iconst (v := 1) hx hb dl_199 (by decide) ?_
  refine lv_iadd hx hb dl_200 ?_
  refine va_sld hx hb hX hbl hbA hS (i := (0 + 1)) (by rw [hL]; unfold vp_in; decide) dl_201 ?_
  refine lv_aload_n hx hb dl_202 rfl (lv_at hl 0 rfl) ?_
  refine lv_iload_n hx hb dl_203 rfl (lv_at hl 3 rfl) ?_
  refine lv_iconst (v := 2) hx hb dl_204 (by decide) ?_
  refine lv_iadd hx hb dl_205 ?_
  refine va_sld hx hb hX hbl hbA hS (i := (0 + 2)) (by rw [hL]; unfold vp_in; decide) dl_206 ?_
  refine lv_aload_n hx hb dl_207 rfl (lv_at hl 0 rfl) ?_
  refine lv_iload_n hx hb dl_208 rfl (lv_at hl 3 rfl) ?_
  refine lv_iconst (v := 3) hx hb dl_209 (by decide) ?_
  refine lv_iadd hx hb dl_210 ?_
  refine va_sld hx hb hX hbl hbA hS (i := (0 + 3)) (by rw [hL]; unfold vp_in; decide) dl_211 ?_
  refine lv_aload_n hx hb dl_212 rfl (lv_at hl 0 rfl) ?_
  refine lv_iload_n hx hb dl_213 rfl (lv_at hl 3 rfl) ?_
  refine lv_iconst (v := 4) hx hb dl_214 (by decide) ?_
  refine lv_iadd hx hb dl_215 ?_
  refine va_sld hx hb hX hbl hbA hS (i := (0 + 4)) (by rw [hL]; unfold vp_in; decide) dl_216 ?_
  refine lv_aload_n hx hb dl_217 rfl (lv_at hl 0 rfl) ?_
  refine lv_iload_n hx hb dl_218 rfl (lv_at hl 3 rfl) ?_
  refine lv_iconst (v := 5) hx hb dl_219 (by decide) ?_
  refine lv_iadd hx hb dl_220 ?_
  refine va_sld hx hb hX hbl hbA hS (i := (0 + 5)) (by rw [hL]; unfold vp_in; decide) dl_221 ?_
  obtain ⟨n1, n2, w, h1, h2, r1, r2, r3⟩ := pm_feed ((xs (Int32.toNatClampNeg (0 + 1)))) ((xs (Int32.toNatClampNeg (0 + 2)))) ((xs (Int32.toNatClampNeg (0 + 3)))) ((xs (Int32.toNatClampNeg (0 + 4)))) ((xs (Int32.toNatClampNeg (0 + 5))))
  refine W.eq (g2 := F0 m 222 ls ((([.int (xs (Int32.toNatClampNeg (0 + 1))), .int (xs (Int32.toNatClampNeg (0 + 2))), .int (xs (Int32.toNatClampNeg (0 + 3))), .int (xs (Int32.toNatClampNeg (0 + 4))), .int (xs (Int32.toNatClampNeg (0 + 5)))] : List Value).map (j_rv g)).reverse ++ .ref (ad 9) :: [])) rfl ?_
  refine j_lawV hC (as := [.int (xs (Int32.toNatClampNeg (0 + 1))), .int (xs (Int32.toNatClampNeg (0 + 2))), .int (xs (Int32.toNatClampNeg (0 + 3))), .int (xs (Int32.toNatClampNeg (0 + 4))), .int (xs (Int32.toNatClampNeg (0 + 5)))]) (a := 9) (rest := []) r1 dl_222 (j := 24) (Nat.le_of_ble_eq_true rfl) (by decide +kernel) (j_has_in (c := 3) (o := 20) (by decide +kernel)) (Nat.le_of_ble_eq_true rfl) jh2_x (show 5 = j_np 24 from by decide +kernel) (show (lg_sl _).length ≤ 6 from Nat.le_of_ble_eq_true rfl) (Nat.le_of_ble_eq_true rfl) (show 8 + (6 + 11) + 20000 ≤ 84000 from Nat.le_of_ble_eq_true rfl) (Nat.le_of_ble_eq_true rfl) hl.1 hH hS hc hs (fun H1 locs1 hH1 hS1 => ?_)
  show W p l e room_1 s m #[Value.ref b] below meth c H1 locs1 _ _ (lw_Z below #[Value.ref b] s) (F0 m 225 ls [.int w])
  have hS := hS1
  refine lv_aload_n hx hb dl_225 rfl (lv_at hl 2 rfl) ?_
  refine lv_aload_n hx hb dl_226 rfl (lv_at hl 0 rfl) ?_
  refine lv_iload_n hx hb dl_227 rfl (lv_at hl 3 rfl) ?_
  refine lv_iconst (v := 1) hx hb dl_228 (by decide) ?_
  refine lv_iadd hx hb dl_229 ?_
  refine va_sld hx hb hX hbl hbA hS (i := (0 + 1)) (by rw [hL]; unfold vp_in; decide) dl_230 ?_
  refine lv_aload_n hx hb dl_231 rfl (lv_at hl 0 rfl) ?_
  refine lv_iload_n hx hb dl_232 rfl (lv_at hl 3 rfl) ?_
  refine lv_iconst (v := 2) hx hb dl_233 (by decide) ?_
  refine lv_iadd hx hb dl_234 ?_
  refine va_sld hx hb hX hbl hbA hS (i := (0 + 2)) (by rw [hL]; unfold vp_in; decide) dl_235 ?_
  refine lv_aload_n hx hb dl_236 rfl (lv_at hl 0 rfl) ?_
  refine lv_iload_n hx hb dl_237 rfl (lv_at hl 3 rfl) ?_
  refine lv_iconst (v := 3) hx hb dl_238 (by decide) ?_
  refine lv_iadd hx hb dl_239 ?_
  refine va_sld hx hb hX hbl hbA hS (i := (0 + 3)) (by rw [hL]; unfold vp_in; decide) dl_240 ?_
  refine lv_aload_n hx hb dl_241 rfl (lv_at hl 0 rfl) ?_
  refine lv_iload_n hx hb dl_242 rfl (lv_at hl 3 rfl) ?_
  refine lv_iconst (v := 4) hx hb dl_243 (by decide) ?_
  refine lv_iadd hx hb dl_244 ?_
  refine va_sld hx hb hX hbl hbA hS (i := (0 + 4)) (by rw [hL]; unfold vp_in; decide) dl_245 ?_
  refine lv_aload_n hx hb dl_246 rfl (lv_at hl 0 rfl) ?_
  refine lv_iload_n hx hb dl_247 rfl (lv_at hl 3 rfl) ?_
  refine lv_iconst (v := 5) hx hb dl_248 (by decide) ?_
  refine lv_iadd hx hb dl_249 ?_
  refine va_sld hx hb hX hbl hbA hS (i := (0 + 5)) (by rw [hL]; unfold vp_in; decide) dl_250 ?_
  refine W.eq (g2 := F0 m 251 ls ((([.int (xs (Int32.toNatClampNeg (0 + 1))), .int (xs (Int32.toNatClampNeg (0 + 2))), .int (xs (Int32.toNatClampNeg (0 + 3))), .int (xs (Int32.toNatClampNeg (0 + 4))), .int (xs (Int32.toNatClampNeg (0 + 5)))] : List Value).map (j_rv g)).reverse ++ .ref (ad 117) :: [.int w])) rfl ?_
  refine j_lawV hC (as := [.int (xs (Int32.toNatClampNeg (0 + 1))), .int (xs (Int32.toNatClampNeg (0 + 2))), .int (xs (Int32.toNatClampNeg (0 + 3))), .int (xs (Int32.toNatClampNeg (0 + 4))), .int (xs (Int32.toNatClampNeg (0 + 5)))]) (a := 117) (rest := [.int w]) r2 dl_251 (j := 212) (Nat.le_of_ble_eq_true rfl) (by decide +kernel) (j_has_in (c := 7) (o := 157) (by decide +kernel)) (Nat.le_of_ble_eq_true rfl) r3 (show 5 = j_np 212 from by decide +kernel) (show (lg_sl _).length ≤ 8 from Nat.le_of_ble_eq_true rfl) (Nat.le_of_ble_eq_true rfl) (show 8 + (8 + 11) + 20000 ≤ 84000 from Nat.le_of_ble_eq_true rfl) (Nat.le_of_ble_eq_true rfl) hl.1 hH1 hS1 hc hs (fun H2 locs2 hH2 hS2 => ?_)
  show W p l e room_1 s m #[Value.ref b] below meth c H2 locs2 _ _ (lw_Z below #[Value.ref b] s) (F0 m 254 ls [.int w, .int w])
  have hS := hS2
  refine lv_icmp_eq (tgt := 1226) hx hb dl_254 (by decide) (fun hqe => ?_) (fun hqe => ?_)
  · skip
    refine lv_iinc (v := 6) (lv' := [(3, .int 6), (0, .ref b), (1, .ref (ad 9)), (2, .ref (ad 117))]) hx hb dl_1226 hl (k := 3) rfl (by decide) (by decide) rfl (fun ls hl => ?_)
    refine lv_goto (tgt := 18) hx hb dl_1229 (by decide) ?_
    exact law_end C0 hC hL hS hc hs (lv_sub hl [0, 1] rfl)
  · exact absurd rfl hqe
set_option maxHeartbeats 4000000 in
theorem law_c1 {p : Program} {l : Launch} {e : Env} {s : State} {m : MethodId} {below : List Frame} {meth : Method} {c : Code} {b L : Nat} {xs : Nat → Int32} {g : Nat → Value} {ad : Nat → Nat} {D : va_G} {cA : Nat → ClassId} {H : Heap} {locs : List Loc} {cells slots : Nat} {ls : Array Slot} (C0 : lw_At p s m meth c b L xs) (hC : j_Cx g ad s.heap.size D cA vwCl j_TW j_zs j_ks "HundredWordsLaw" "law" code 4 p s m #[.ref b] meth c) (hL : L = 6) (hH : j_H g ad s.heap.size D cA vwCl s H jh2) (hS : va_S (j_A s.heap.size) s.heap H locs) (hc : cells ≤ 600000) (hs : slots ≤ 7302250) (hl : lv_has ls 4 [(0, .ref b), (1, .ref (ad 9)), (2, .ref (ad 117)), (3, .int 0)]) : W p l e room_1 s m #[Value.ref b] below meth c H locs cells slots (lw_Z below #[Value.ref b] s) (F0 m 259 ls []) := by
  obtain ⟨hx, hb, hr, hml, hown, hts, hX, hbl, hlocks, hgv⟩ := id C0
  have hbA : ¬ j_A s.heap.size b := Nat.not_le.mpr hbl
  refine lv_aload_n hx hb dl_259 rfl (lv_at hl 1 rfl) ?_
  refine lv_aload_n hx hb dl_260 rfl (lv_at hl 0 rfl) ?_
  refine lv_iload_n hx hb dl_261 rfl (lv_at hl 3 rfl) ?_
  refine lv_iconst (v := 1) hx hb dl_262 (by decide) ?_
  refine lv_iadd hx hb dl_263 ?_
  refine va_sld hx hb hX hbl hbA hS (i := (0 + 1)) (by rw [hL]; unfold vp_in; decide) dl_264 ?_
  obtain ⟨n1, n2, w, h1, h2, r1, r2, r3⟩ := pm_end ((xs (Int32.toNatClampNeg (0 + 1))))
  refine W.eq (g2 := F0 m 265 ls ((([.int (xs (Int32.toNatClampNeg (0 + 1)))] : List Value).map (j_rv g)).reverse ++ .ref (ad 9) :: [])) rfl ?_
  refine j_lawV hC (as := [.int (xs (Int32.toNatClampNeg (0 + 1)))]) (a := 9) (rest := []) r1 dl_265 (j := 27) (Nat.le_of_ble_eq_true rfl) (by decide +kernel) (j_has_in (c := 3) (o := 32) (by decide +kernel)) (Nat.le_of_ble_eq_true rfl) jh2_x (show 1 = j_np 27 from by decide +kernel) (show (lg_sl _).length ≤ 2 from Nat.le_of_ble_eq_true rfl) (Nat.le_of_ble_eq_true rfl) (show 8 + (2 + 11) + 20000 ≤ 84000 from Nat.le_of_ble_eq_true rfl) (Nat.le_of_ble_eq_true rfl) hl.1 hH hS hc hs (fun H1 locs1 hH1 hS1 => ?_)
  show W p l e room_1 s m #[Value.ref b] below meth c H1 locs1 _ _ (lw_Z below #[Value.ref b] s) (F0 m 268 ls [.int w])
  have hS := hS1
  refine lv_aload_n hx hb dl_268 rfl (lv_at hl 2 rfl) ?_
  refine lv_aload_n hx hb dl_269 rfl (lv_at hl 0 rfl) ?_
  refine lv_iload_n hx hb dl_270 rfl (lv_at hl 3 rfl) ?_
  refine lv_iconst (v := 1) hx hb dl_271 (by decide) ?_
  refine lv_iadd hx hb dl_272 ?_
  refine va_sld hx hb hX hbl hbA hS (i := (0 + 1)) (by rw [hL]; unfold vp_in; decide) dl_273 ?_
  refine W.eq (g2 := F0 m 274 ls ((([.int (xs (Int32.toNatClampNeg (0 + 1)))] : List Value).map (j_rv g)).reverse ++ .ref (ad 117) :: [.int w])) rfl ?_
  refine j_lawV hC (as := [.int (xs (Int32.toNatClampNeg (0 + 1)))]) (a := 117) (rest := [.int w]) r2 dl_274 (j := 213) (Nat.le_of_ble_eq_true rfl) (by decide +kernel) (j_has_in (c := 7) (o := 161) (by decide +kernel)) (Nat.le_of_ble_eq_true rfl) r3 (show 1 = j_np 213 from by decide +kernel) (show (lg_sl _).length ≤ 2 from Nat.le_of_ble_eq_true rfl) (Nat.le_of_ble_eq_true rfl) (show 8 + (2 + 11) + 20000 ≤ 84000 from Nat.le_of_ble_eq_true rfl) (Nat.le_of_ble_eq_true rfl) hl.1 hH1 hS1 hc hs (fun H2 locs2 hH2 hS2 => ?_)
  show W p l e room_1 s m #[Value.ref b] below meth c H2 locs2 _ _ (lw_Z below #[Value.ref b] s) (F0 m 277 ls [.int w, .int w])
  have hS := hS2
  refine lv_icmp_eq (tgt := 1226) hx hb dl_277 (by decide) (fun hqe => ?_) (fun hqe => ?_)
  · skip
    refine lv_iinc (v := 6) (lv' := [(3, .int 6), (0, .ref b), (1, .ref (ad 9)), (2, .ref (ad 117))]) hx hb dl_1226 hl (k := 3) rfl (by decide) (by decide) rfl (fun ls hl => ?_)
    refine lv_goto (tgt := 18) hx hb dl_1229 (by decide) ?_
    exact law_end C0 hC hL hS hc hs (lv_sub hl [0, 1] rfl)
  · exact absurd rfl hqe
set_option maxHeartbeats 4000000 in
theorem law_c2 {p : Program} {l : Launch} {e : Env} {s : State} {m : MethodId} {below : List Frame} {meth : Method} {c : Code} {b L : Nat} {xs : Nat → Int32} {g : Nat → Value} {ad : Nat → Nat} {D : va_G} {cA : Nat → ClassId} {H : Heap} {locs : List Loc} {cells slots : Nat} {ls : Array Slot} (C0 : lw_At p s m meth c b L xs) (hC : j_Cx g ad s.heap.size D cA vwCl j_TW j_zs j_ks "HundredWordsLaw" "law" code 4 p s m #[.ref b] meth c) (hL : L = 6) (hH : j_H g ad s.heap.size D cA vwCl s H jh2) (hS : va_S (j_A s.heap.size) s.heap H locs) (hc : cells ≤ 600000) (hs : slots ≤ 7302250) (hl : lv_has ls 4 [(0, .ref b), (1, .ref (ad 9)), (2, .ref (ad 117)), (3, .int 0)]) : W p l e room_1 s m #[Value.ref b] below meth c H locs cells slots (lw_Z below #[Value.ref b] s) (F0 m 282 ls []) := by
  obtain ⟨hx, hb, hr, hml, hown, hts, hX, hbl, hlocks, hgv⟩ := id C0
  have hbA : ¬ j_A s.heap.size b := Nat.not_le.mpr hbl
  refine lv_aload_n hx hb dl_282 rfl (lv_at hl 1 rfl) ?_
  obtain ⟨n1, n2, w, h1, h2, r1, r2, r3⟩ := pm_tongue 
  refine W.eq (g2 := F0 m 283 ls ((([] : List Value).map (j_rv g)).reverse ++ .ref (ad 9) :: [])) rfl ?_
  refine j_lawV hC (as := []) (a := 9) (rest := []) r1 dl_283 (j := 28) (Nat.le_of_ble_eq_true rfl) (by decide +kernel) (j_has_in (c := 3) (o := 36) (by decide +kernel)) (Nat.le_of_ble_eq_true rfl) jh2_x (show 0 = j_np 28 from by decide +kernel) (show (lg_sl _).length ≤ 3 from Nat.le_of_ble_eq_true rfl) (Nat.le_of_ble_eq_true rfl) (show 8 + (3 + 11) + 20000 ≤ 84000 from Nat.le_of_ble_eq_true rfl) (Nat.le_of_ble_eq_true rfl) hl.1 hH hS hc hs (fun H1 locs1 hH1 hS1 => ?_)
  show W p l e room_1 s m #[Value.ref b] below meth c H1 locs1 _ _ (lw_Z below #[Value.ref b] s) (F0 m 286 ls [.int w])
  have hS := hS1
  refine lv_aload_n hx hb dl_286 rfl (lv_at hl 2 rfl) ?_
  refine W.eq (g2 := F0 m 287 ls ((([] : List Value).map (j_rv g)).reverse ++ .ref (ad 117) :: [.int w])) rfl ?_
  refine j_lawV hC (as := []) (a := 117) (rest := [.int w]) r2 dl_287 (j := 214) (Nat.le_of_ble_eq_true rfl) (by decide +kernel) (j_has_in (c := 7) (o := 165) (by decide +kernel)) (Nat.le_of_ble_eq_true rfl) r3 (show 0 = j_np 214 from by decide +kernel) (show (lg_sl _).length ≤ 2 from Nat.le_of_ble_eq_true rfl) (Nat.le_of_ble_eq_true rfl) (show 8 + (2 + 11) + 20000 ≤ 84000 from Nat.le_of_ble_eq_true rfl) (Nat.le_of_ble_eq_true rfl) hl.1 hH1 hS1 hc hs (fun H2 locs2 hH2 hS2 => ?_)
  show W p l e room_1 s m #[Value.ref b] below meth c H2 locs2 _ _ (lw_Z below #[Value.ref b] s) (F0 m 290 ls [.int w, .int w])
  have hS := hS2
  refine lv_icmp_eq (tgt := 1226) hx hb dl_290 (by decide) (fun hqe => ?_) (fun hqe => ?_)
  · skip
    refine lv_iinc (v := 6) (lv' := [(3, .int 6), (0, .ref b), (1, .ref (ad 9)), (2, .ref (ad 117))]) hx hb dl_1226 hl (k := 3) rfl (by decide) (by decide) rfl (fun ls hl => ?_)
    refine lv_goto (tgt := 18) hx hb dl_1229 (by decide) ?_
    exact law_end C0 hC hL hS hc hs (lv_sub hl [0, 1] rfl)
  · exact absurd rfl hqe
set_option maxHeartbeats 4000000 in
theorem law_c3 {p : Program} {l : Launch} {e : Env} {s : State} {m : MethodId} {below : List Frame} {meth : Method} {c : Code} {b L : Nat} {xs : Nat → Int32} {g : Nat → Value} {ad : Nat → Nat} {D : va_G} {cA : Nat → ClassId} {H : Heap} {locs : List Loc} {cells slots : Nat} {ls : Array Slot} (C0 : lw_At p s m meth c b L xs) (hC : j_Cx g ad s.heap.size D cA vwCl j_TW j_zs j_ks "HundredWordsLaw" "law" code 4 p s m #[.ref b] meth c) (hL : L = 6) (hH : j_H g ad s.heap.size D cA vwCl s H jh2) (hS : va_S (j_A s.heap.size) s.heap H locs) (hc : cells ≤ 600000) (hs : slots ≤ 7302250) (hl : lv_has ls 4 [(0, .ref b), (1, .ref (ad 9)), (2, .ref (ad 117)), (3, .int 0)]) : W p l e room_1 s m #[Value.ref b] below meth c H locs cells slots (lw_Z below #[Value.ref b] s) (F0 m 295 ls []) := by
  obtain ⟨hx, hb, hr, hml, hown, hts, hX, hbl, hlocks, hgv⟩ := id C0
  have hbA : ¬ j_A s.heap.size b := Nat.not_le.mpr hbl
  refine lv_aload_n hx hb dl_295 rfl (lv_at hl 1 rfl) ?_
  refine lv_aload_n hx hb dl_296 rfl (lv_at hl 0 rfl) ?_
  refine lv_iload_n hx hb dl_297 rfl (lv_at hl 3 rfl) ?_
  refine lv_iconst (v := 1) hx hb dl_298 (by decide) ?_
  refine lv_iadd hx hb dl_299 ?_
  refine va_sld hx hb hX hbl hbA hS (i := (0 + 1)) (by rw [hL]; unfold vp_in; decide) dl_300 ?_
  refine lv_if_eq (tgt := 308) hx hb dl_301 (by decide) (fun hq0 => ?_) (fun hq0 => ?_)
  · skip
    refine lv_iconst (v := 0) hx hb dl_308 (by decide) ?_
    obtain ⟨n1, n2, w, h1, h2, r1, r2, r3⟩ := pm_law_0 
    refine W.eq (g2 := F0 m 309 ls ((([.int 0] : List Value).map (j_rv g)).reverse ++ .ref (ad 9) :: [])) rfl ?_
    refine j_lawV hC (as := [.int 0]) (a := 9) (rest := []) r1 dl_309 (j := 74) (Nat.le_of_ble_eq_true rfl) (by decide +kernel) (j_has_in (c := 3) (o := 223) (by decide +kernel)) (Nat.le_of_ble_eq_true rfl) jh2_x (show 1 = j_np 74 from by decide +kernel) (show (lg_sl _).length ≤ 3 from Nat.le_of_ble_eq_true rfl) (Nat.le_of_ble_eq_true rfl) (show 8 + (3 + 11) + 20000 ≤ 84000 from Nat.le_of_ble_eq_true rfl) (Nat.le_of_ble_eq_true rfl) hl.1 hH hS hc hs (fun H1 locs1 hH1 hS1 => ?_)
    show W p l e room_1 s m #[Value.ref b] below meth c H1 locs1 _ _ (lw_Z below #[Value.ref b] s) (F0 m 312 ls [.int w])
    have hS := hS1
    refine lv_aload_n hx hb dl_312 rfl (lv_at hl 2 rfl) ?_
    refine lv_aload_n hx hb dl_313 rfl (lv_at hl 0 rfl) ?_
    refine lv_iload_n hx hb dl_314 rfl (lv_at hl 3 rfl) ?_
    refine lv_iconst (v := 1) hx hb dl_315 (by decide) ?_
    refine lv_iadd hx hb dl_316 ?_
    refine va_sld hx hb hX hbl hbA hS (i := (0 + 1)) (by rw [hL]; unfold vp_in; decide) dl_317 ?_
    refine lv_if_eq (tgt := 325) hx hb dl_318 (by decide) (fun hq1 => ?_) (fun hq1 => ?_)
    · skip
      refine lv_iconst (v := 0) hx hb dl_325 (by decide) ?_
      refine W.eq (g2 := F0 m 326 ls ((([.int 0] : List Value).map (j_rv g)).reverse ++ .ref (ad 117) :: [.int w])) rfl ?_
      refine j_lawV hC (as := [.int 0]) (a := 117) (rest := [.int w]) r2 dl_326 (j := 251) (Nat.le_of_ble_eq_true rfl) (by decide +kernel) (j_has_in (c := 8) (o := 72) (by decide +kernel)) (Nat.le_of_ble_eq_true rfl) r3 (show 1 = j_np 251 from by decide +kernel) (show (lg_sl _).length ≤ 2 from Nat.le_of_ble_eq_true rfl) (Nat.le_of_ble_eq_true rfl) (show 8 + (2 + 11) + 20000 ≤ 84000 from Nat.le_of_ble_eq_true rfl) (Nat.le_of_ble_eq_true rfl) hl.1 hH1 hS1 hc hs (fun H2 locs2 hH2 hS2 => ?_)
      show W p l e room_1 s m #[Value.ref b] below meth c H2 locs2 _ _ (lw_Z below #[Value.ref b] s) (F0 m 329 ls [.int w, .int w])
      have hS := hS2
      refine lv_icmp_eq (tgt := 1226) hx hb dl_329 (by decide) (fun hqe => ?_) (fun hqe => ?_)
      · skip
        refine lv_iinc (v := 6) (lv' := [(3, .int 6), (0, .ref b), (1, .ref (ad 9)), (2, .ref (ad 117))]) hx hb dl_1226 hl (k := 3) rfl (by decide) (by decide) rfl (fun ls hl => ?_)
        refine lv_goto (tgt := 18) hx hb dl_1229 (by decide) ?_
        exact law_end C0 hC hL hS hc hs (lv_sub hl [0, 1] rfl)
      · exact absurd rfl hqe
    · exact absurd hq0 hq1
  · skip
    refine lv_iconst (v := 1) hx hb dl_304 (by decide) ?_
    refine lv_goto (tgt := 309) hx hb dl_305 (by decide) ?_
    obtain ⟨n1, n2, w, h1, h2, r1, r2, r3⟩ := pm_law_1 
    refine W.eq (g2 := F0 m 309 ls ((([.int 1] : List Value).map (j_rv g)).reverse ++ .ref (ad 9) :: [])) rfl ?_
    refine j_lawV hC (as := [.int 1]) (a := 9) (rest := []) r1 dl_309 (j := 74) (Nat.le_of_ble_eq_true rfl) (by decide +kernel) (j_has_in (c := 3) (o := 223) (by decide +kernel)) (Nat.le_of_ble_eq_true rfl) jh2_x (show 1 = j_np 74 from by decide +kernel) (show (lg_sl _).length ≤ 3 from Nat.le_of_ble_eq_true rfl) (Nat.le_of_ble_eq_true rfl) (show 8 + (3 + 11) + 20000 ≤ 84000 from Nat.le_of_ble_eq_true rfl) (Nat.le_of_ble_eq_true rfl) hl.1 hH hS hc hs (fun H1 locs1 hH1 hS1 => ?_)
    show W p l e room_1 s m #[Value.ref b] below meth c H1 locs1 _ _ (lw_Z below #[Value.ref b] s) (F0 m 312 ls [.int w])
    have hS := hS1
    refine lv_aload_n hx hb dl_312 rfl (lv_at hl 2 rfl) ?_
    refine lv_aload_n hx hb dl_313 rfl (lv_at hl 0 rfl) ?_
    refine lv_iload_n hx hb dl_314 rfl (lv_at hl 3 rfl) ?_
    refine lv_iconst (v := 1) hx hb dl_315 (by decide) ?_
    refine lv_iadd hx hb dl_316 ?_
    refine va_sld hx hb hX hbl hbA hS (i := (0 + 1)) (by rw [hL]; unfold vp_in; decide) dl_317 ?_
    refine lv_if_eq (tgt := 325) hx hb dl_318 (by decide) (fun hq1 => ?_) (fun hq1 => ?_)
    · exact absurd hq1 hq0
    · skip
      refine lv_iconst (v := 1) hx hb dl_321 (by decide) ?_
      refine lv_goto (tgt := 326) hx hb dl_322 (by decide) ?_
      refine W.eq (g2 := F0 m 326 ls ((([.int 1] : List Value).map (j_rv g)).reverse ++ .ref (ad 117) :: [.int w])) rfl ?_
      refine j_lawV hC (as := [.int 1]) (a := 117) (rest := [.int w]) r2 dl_326 (j := 251) (Nat.le_of_ble_eq_true rfl) (by decide +kernel) (j_has_in (c := 8) (o := 72) (by decide +kernel)) (Nat.le_of_ble_eq_true rfl) r3 (show 1 = j_np 251 from by decide +kernel) (show (lg_sl _).length ≤ 2 from Nat.le_of_ble_eq_true rfl) (Nat.le_of_ble_eq_true rfl) (show 8 + (2 + 11) + 20000 ≤ 84000 from Nat.le_of_ble_eq_true rfl) (Nat.le_of_ble_eq_true rfl) hl.1 hH1 hS1 hc hs (fun H2 locs2 hH2 hS2 => ?_)
      show W p l e room_1 s m #[Value.ref b] below meth c H2 locs2 _ _ (lw_Z below #[Value.ref b] s) (F0 m 329 ls [.int w, .int w])
      have hS := hS2
      refine lv_icmp_eq (tgt := 1226) hx hb dl_329 (by decide) (fun hqe => ?_) (fun hqe => ?_)
      · skip
        refine lv_iinc (v := 6) (lv' := [(3, .int 6), (0, .ref b), (1, .ref (ad 9)), (2, .ref (ad 117))]) hx hb dl_1226 hl (k := 3) rfl (by decide) (by decide) rfl (fun ls hl => ?_)
        refine lv_goto (tgt := 18) hx hb dl_1229 (by decide) ?_
        exact law_end C0 hC hL hS hc hs (lv_sub hl [0, 1] rfl)
      · exact absurd rfl hqe
set_option maxHeartbeats 4000000 in
theorem law_c4 {p : Program} {l : Launch} {e : Env} {s : State} {m : MethodId} {below : List Frame} {meth : Method} {c : Code} {b L : Nat} {xs : Nat → Int32} {g : Nat → Value} {ad : Nat → Nat} {D : va_G} {cA : Nat → ClassId} {H : Heap} {locs : List Loc} {cells slots : Nat} {ls : Array Slot} (C0 : lw_At p s m meth c b L xs) (hC : j_Cx g ad s.heap.size D cA vwCl j_TW j_zs j_ks "HundredWordsLaw" "law" code 4 p s m #[.ref b] meth c) (hL : L = 6) (hH : j_H g ad s.heap.size D cA vwCl s H jh2) (hS : va_S (j_A s.heap.size) s.heap H locs) (hc : cells ≤ 600000) (hs : slots ≤ 7302250) (hl : lv_has ls 4 [(0, .ref b), (1, .ref (ad 9)), (2, .ref (ad 117)), (3, .int 0)]) : W p l e room_1 s m #[Value.ref b] below meth c H locs cells slots (lw_Z below #[Value.ref b] s) (F0 m 334 ls []) := by
  obtain ⟨hx, hb, hr, hml, hown, hts, hX, hbl, hlocks, hgv⟩ := id C0
  have hbA : ¬ j_A s.heap.size b := Nat.not_le.mpr hbl
  refine lv_aload_n hx hb dl_334 rfl (lv_at hl 1 rfl) ?_
  refine lv_aload_n hx hb dl_335 rfl (lv_at hl 0 rfl) ?_
  refine lv_iload_n hx hb dl_336 rfl (lv_at hl 3 rfl) ?_
  refine lv_iconst (v := 1) hx hb dl_337 (by decide) ?_
  refine lv_iadd hx hb dl_338 ?_
  refine va_sld hx hb hX hbl hbA hS (i := (0 + 1)) (by rw [hL]; unfold vp_in; decide) dl_339 ?_
  obtain ⟨n1, n2, w, h1, h2, r1, r2, r3⟩ := pm_fault ((xs (Int32.toNatClampNeg (0 + 1))))
  refine W.eq (g2 := F0 m 340 ls ((([.int (xs (Int32.toNatClampNeg (0 + 1)))] : List Value).map (j_rv g)).reverse ++ .ref (ad 9) :: [])) rfl ?_
  refine j_lawV hC (as := [.int (xs (Int32.toNatClampNeg (0 + 1)))]) (a := 9) (rest := []) r1 dl_340 (j := 89) (Nat.le_of_ble_eq_true rfl) (by decide +kernel) (j_has_in (c := 4) (o := 60) (by decide +kernel)) (Nat.le_of_ble_eq_true rfl) jh2_x (show 1 = j_np 89 from by decide +kernel) (show (lg_sl _).length ≤ 2 from Nat.le_of_ble_eq_true rfl) (Nat.le_of_ble_eq_true rfl) (show 8 + (2 + 11) + 20000 ≤ 84000 from Nat.le_of_ble_eq_true rfl) (Nat.le_of_ble_eq_true rfl) hl.1 hH hS hc hs (fun H1 locs1 hH1 hS1 => ?_)
  show W p l e room_1 s m #[Value.ref b] below meth c H1 locs1 _ _ (lw_Z below #[Value.ref b] s) (F0 m 343 ls [.int w])
  have hS := hS1
  refine lv_aload_n hx hb dl_343 rfl (lv_at hl 2 rfl) ?_
  refine lv_aload_n hx hb dl_344 rfl (lv_at hl 0 rfl) ?_
  refine lv_iload_n hx hb dl_345 rfl (lv_at hl 3 rfl) ?_
  refine lv_iconst (v := 1) hx hb dl_346 (by decide) ?_
  refine lv_iadd hx hb dl_347 ?_
  refine va_sld hx hb hX hbl hbA hS (i := (0 + 1)) (by rw [hL]; unfold vp_in; decide) dl_348 ?_
  refine W.eq (g2 := F0 m 349 ls ((([.int (xs (Int32.toNatClampNeg (0 + 1)))] : List Value).map (j_rv g)).reverse ++ .ref (ad 117) :: [.int w])) rfl ?_
  refine j_lawV hC (as := [.int (xs (Int32.toNatClampNeg (0 + 1)))]) (a := 117) (rest := [.int w]) r2 dl_349 (j := 264) (Nat.le_of_ble_eq_true rfl) (by decide +kernel) (j_has_in (c := 8) (o := 124) (by decide +kernel)) (Nat.le_of_ble_eq_true rfl) r3 (show 1 = j_np 264 from by decide +kernel) (show (lg_sl _).length ≤ 2 from Nat.le_of_ble_eq_true rfl) (Nat.le_of_ble_eq_true rfl) (show 8 + (2 + 11) + 20000 ≤ 84000 from Nat.le_of_ble_eq_true rfl) (Nat.le_of_ble_eq_true rfl) hl.1 hH1 hS1 hc hs (fun H2 locs2 hH2 hS2 => ?_)
  show W p l e room_1 s m #[Value.ref b] below meth c H2 locs2 _ _ (lw_Z below #[Value.ref b] s) (F0 m 352 ls [.int w, .int w])
  have hS := hS2
  refine lv_icmp_eq (tgt := 1226) hx hb dl_352 (by decide) (fun hqe => ?_) (fun hqe => ?_)
  · skip
    refine lv_iinc (v := 6) (lv' := [(3, .int 6), (0, .ref b), (1, .ref (ad 9)), (2, .ref (ad 117))]) hx hb dl_1226 hl (k := 3) rfl (by decide) (by decide) rfl (fun ls hl => ?_)
    refine lv_goto (tgt := 18) hx hb dl_1229 (by decide) ?_
    exact law_end C0 hC hL hS hc hs (lv_sub hl [0, 1] rfl)
  · exact absurd rfl hqe
set_option maxHeartbeats 4000000 in
theorem law_c5 {p : Program} {l : Launch} {e : Env} {s : State} {m : MethodId} {below : List Frame} {meth : Method} {c : Code} {b L : Nat} {xs : Nat → Int32} {g : Nat → Value} {ad : Nat → Nat} {D : va_G} {cA : Nat → ClassId} {H : Heap} {locs : List Loc} {cells slots : Nat} {ls : Array Slot} (C0 : lw_At p s m meth c b L xs) (hC : j_Cx g ad s.heap.size D cA vwCl j_TW j_zs j_ks "HundredWordsLaw" "law" code 4 p s m #[.ref b] meth c) (hL : L = 6) (hH : j_H g ad s.heap.size D cA vwCl s H jh2) (hS : va_S (j_A s.heap.size) s.heap H locs) (hc : cells ≤ 600000) (hs : slots ≤ 7302250) (hl : lv_has ls 4 [(0, .ref b), (1, .ref (ad 9)), (2, .ref (ad 117)), (3, .int 0)]) : W p l e room_1 s m #[Value.ref b] below meth c H locs cells slots (lw_Z below #[Value.ref b] s) (F0 m 357 ls []) := by
  obtain ⟨hx, hb, hr, hml, hown, hts, hX, hbl, hlocks, hgv⟩ := id C0
  have hbA : ¬ j_A s.heap.size b := Nat.not_le.mpr hbl
  refine lv_aload_n hx hb dl_357 rfl (lv_at hl 1 rfl) ?_
  refine lv_aload_n hx hb dl_358 rfl (lv_at hl 0 rfl) ?_
  refine lv_iload_n hx hb dl_359 rfl (lv_at hl 3 rfl) ?_
  refine lv_iconst (v := 1) hx hb dl_360 (by decide) ?_
  refine lv_iadd hx hb dl_361 ?_
  refine va_sld hx hb hX hbl hbA hS (i := (0 + 1)) (by rw [hL]; unfold vp_in; decide) dl_362 ?_
  obtain ⟨n1, n2, w, h1, h2, r1, r2, r3⟩ := pm_has ((xs (Int32.toNatClampNeg (0 + 1))))
  refine W.eq (g2 := F0 m 363 ls ((([.int (xs (Int32.toNatClampNeg (0 + 1)))] : List Value).map (j_rv g)).reverse ++ .ref (ad 9) :: [])) rfl ?_
  refine j_lawV hC (as := [.int (xs (Int32.toNatClampNeg (0 + 1)))]) (a := 9) (rest := []) r1 dl_363 (j := 90) (Nat.le_of_ble_eq_true rfl) (by decide +kernel) (j_has_in (c := 4) (o := 64) (by decide +kernel)) (Nat.le_of_ble_eq_true rfl) jh2_x (show 1 = j_np 90 from by decide +kernel) (show (lg_sl _).length ≤ 2 from Nat.le_of_ble_eq_true rfl) (Nat.le_of_ble_eq_true rfl) (show 8 + (2 + 11) + 20000 ≤ 84000 from Nat.le_of_ble_eq_true rfl) (Nat.le_of_ble_eq_true rfl) hl.1 hH hS hc hs (fun H1 locs1 hH1 hS1 => ?_)
  show W p l e room_1 s m #[Value.ref b] below meth c H1 locs1 _ _ (lw_Z below #[Value.ref b] s) (F0 m 366 ls [.int w])
  have hS := hS1
  refine lv_aload_n hx hb dl_366 rfl (lv_at hl 2 rfl) ?_
  refine lv_aload_n hx hb dl_367 rfl (lv_at hl 0 rfl) ?_
  refine lv_iload_n hx hb dl_368 rfl (lv_at hl 3 rfl) ?_
  refine lv_iconst (v := 1) hx hb dl_369 (by decide) ?_
  refine lv_iadd hx hb dl_370 ?_
  refine va_sld hx hb hX hbl hbA hS (i := (0 + 1)) (by rw [hL]; unfold vp_in; decide) dl_371 ?_
  refine W.eq (g2 := F0 m 372 ls ((([.int (xs (Int32.toNatClampNeg (0 + 1)))] : List Value).map (j_rv g)).reverse ++ .ref (ad 117) :: [.int w])) rfl ?_
  refine j_lawV hC (as := [.int (xs (Int32.toNatClampNeg (0 + 1)))]) (a := 117) (rest := [.int w]) r2 dl_372 (j := 265) (Nat.le_of_ble_eq_true rfl) (by decide +kernel) (j_has_in (c := 8) (o := 128) (by decide +kernel)) (Nat.le_of_ble_eq_true rfl) r3 (show 1 = j_np 265 from by decide +kernel) (show (lg_sl _).length ≤ 4 from Nat.le_of_ble_eq_true rfl) (Nat.le_of_ble_eq_true rfl) (show 8 + (4 + 11) + 20000 ≤ 84000 from Nat.le_of_ble_eq_true rfl) (Nat.le_of_ble_eq_true rfl) hl.1 hH1 hS1 hc hs (fun H2 locs2 hH2 hS2 => ?_)
  show W p l e room_1 s m #[Value.ref b] below meth c H2 locs2 _ _ (lw_Z below #[Value.ref b] s) (F0 m 375 ls [.int w, .int w])
  have hS := hS2
  refine lv_icmp_eq (tgt := 1226) hx hb dl_375 (by decide) (fun hqe => ?_) (fun hqe => ?_)
  · skip
    refine lv_iinc (v := 6) (lv' := [(3, .int 6), (0, .ref b), (1, .ref (ad 9)), (2, .ref (ad 117))]) hx hb dl_1226 hl (k := 3) rfl (by decide) (by decide) rfl (fun ls hl => ?_)
    refine lv_goto (tgt := 18) hx hb dl_1229 (by decide) ?_
    exact law_end C0 hC hL hS hc hs (lv_sub hl [0, 1] rfl)
  · exact absurd rfl hqe
set_option maxHeartbeats 4000000 in
theorem law_c6 {p : Program} {l : Launch} {e : Env} {s : State} {m : MethodId} {below : List Frame} {meth : Method} {c : Code} {b L : Nat} {xs : Nat → Int32} {g : Nat → Value} {ad : Nat → Nat} {D : va_G} {cA : Nat → ClassId} {H : Heap} {locs : List Loc} {cells slots : Nat} {ls : Array Slot} (C0 : lw_At p s m meth c b L xs) (hC : j_Cx g ad s.heap.size D cA vwCl j_TW j_zs j_ks "HundredWordsLaw" "law" code 4 p s m #[.ref b] meth c) (hL : L = 6) (hH : j_H g ad s.heap.size D cA vwCl s H jh2) (hS : va_S (j_A s.heap.size) s.heap H locs) (hc : cells ≤ 600000) (hs : slots ≤ 7302250) (hl : lv_has ls 4 [(0, .ref b), (1, .ref (ad 9)), (2, .ref (ad 117)), (3, .int 0)]) : W p l e room_1 s m #[Value.ref b] below meth c H locs cells slots (lw_Z below #[Value.ref b] s) (F0 m 380 ls []) := by
  obtain ⟨hx, hb, hr, hml, hown, hts, hX, hbl, hlocks, hgv⟩ := id C0
  have hbA : ¬ j_A s.heap.size b := Nat.not_le.mpr hbl
  refine lv_aload_n hx hb dl_380 rfl (lv_at hl 1 rfl) ?_
  refine lv_aload_n hx hb dl_381 rfl (lv_at hl 0 rfl) ?_
  refine lv_iload_n hx hb dl_382 rfl (lv_at hl 3 rfl) ?_
  refine lv_iconst (v := 1) hx hb dl_383 (by decide) ?_
  refine lv_iadd hx hb dl_384 ?_
  refine va_sld hx hb hX hbl hbA hS (i := (0 + 1)) (by rw [hL]; unfold vp_in; decide) dl_385 ?_
  refine lv_aload_n hx hb dl_386 rfl (lv_at hl 0 rfl) ?_
  refine lv_iload_n hx hb dl_387 rfl (lv_at hl 3 rfl) ?_
  refine lv_iconst (v := 2) hx hb dl_388 (by decide) ?_
  refine lv_iadd hx hb dl_389 ?_
  refine va_sld hx hb hX hbl hbA hS (i := (0 + 2)) (by rw [hL]; unfold vp_in; decide) dl_390 ?_
  obtain ⟨n1, n2, w, h1, h2, r1, r2, r3⟩ := pm_letter ((xs (Int32.toNatClampNeg (0 + 1)))) ((xs (Int32.toNatClampNeg (0 + 2))))
  refine W.eq (g2 := F0 m 391 ls ((([.int (xs (Int32.toNatClampNeg (0 + 1))), .int (xs (Int32.toNatClampNeg (0 + 2)))] : List Value).map (j_rv g)).reverse ++ .ref (ad 9) :: [])) rfl ?_
  refine j_lawV hC (as := [.int (xs (Int32.toNatClampNeg (0 + 1))), .int (xs (Int32.toNatClampNeg (0 + 2)))]) (a := 9) (rest := []) r1 dl_391 (j := 92) (Nat.le_of_ble_eq_true rfl) (by decide +kernel) (j_has_in (c := 4) (o := 72) (by decide +kernel)) (Nat.le_of_ble_eq_true rfl) jh2_x (show 2 = j_np 92 from by decide +kernel) (show (lg_sl _).length ≤ 3 from Nat.le_of_ble_eq_true rfl) (Nat.le_of_ble_eq_true rfl) (show 8 + (3 + 11) + 20000 ≤ 84000 from Nat.le_of_ble_eq_true rfl) (Nat.le_of_ble_eq_true rfl) hl.1 hH hS hc hs (fun H1 locs1 hH1 hS1 => ?_)
  show W p l e room_1 s m #[Value.ref b] below meth c H1 locs1 _ _ (lw_Z below #[Value.ref b] s) (F0 m 394 ls [.int w])
  have hS := hS1
  refine lv_aload_n hx hb dl_394 rfl (lv_at hl 2 rfl) ?_
  refine lv_aload_n hx hb dl_395 rfl (lv_at hl 0 rfl) ?_
  refine lv_iload_n hx hb dl_396 rfl (lv_at hl 3 rfl) ?_
  refine lv_iconst (v := 1) hx hb dl_397 (by decide) ?_
  refine lv_iadd hx hb dl_398 ?_
  refine va_sld hx hb hX hbl hbA hS (i := (0 + 1)) (by rw [hL]; unfold vp_in; decide) dl_399 ?_
  refine lv_aload_n hx hb dl_400 rfl (lv_at hl 0 rfl) ?_
  refine lv_iload_n hx hb dl_401 rfl (lv_at hl 3 rfl) ?_
  refine lv_iconst (v := 2) hx hb dl_402 (by decide) ?_
  refine lv_iadd hx hb dl_403 ?_
  refine va_sld hx hb hX hbl hbA hS (i := (0 + 2)) (by rw [hL]; unfold vp_in; decide) dl_404 ?_
  refine W.eq (g2 := F0 m 405 ls ((([.int (xs (Int32.toNatClampNeg (0 + 1))), .int (xs (Int32.toNatClampNeg (0 + 2)))] : List Value).map (j_rv g)).reverse ++ .ref (ad 117) :: [.int w])) rfl ?_
  refine j_lawV hC (as := [.int (xs (Int32.toNatClampNeg (0 + 1))), .int (xs (Int32.toNatClampNeg (0 + 2)))]) (a := 117) (rest := [.int w]) r2 dl_405 (j := 266) (Nat.le_of_ble_eq_true rfl) (by decide +kernel) (j_has_in (c := 8) (o := 132) (by decide +kernel)) (Nat.le_of_ble_eq_true rfl) r3 (show 2 = j_np 266 from by decide +kernel) (show (lg_sl _).length ≤ 8 from Nat.le_of_ble_eq_true rfl) (Nat.le_of_ble_eq_true rfl) (show 8 + (8 + 11) + 20000 ≤ 84000 from Nat.le_of_ble_eq_true rfl) (Nat.le_of_ble_eq_true rfl) hl.1 hH1 hS1 hc hs (fun H2 locs2 hH2 hS2 => ?_)
  show W p l e room_1 s m #[Value.ref b] below meth c H2 locs2 _ _ (lw_Z below #[Value.ref b] s) (F0 m 408 ls [.int w, .int w])
  have hS := hS2
  refine lv_icmp_eq (tgt := 1226) hx hb dl_408 (by decide) (fun hqe => ?_) (fun hqe => ?_)
  · skip
    refine lv_iinc (v := 6) (lv' := [(3, .int 6), (0, .ref b), (1, .ref (ad 9)), (2, .ref (ad 117))]) hx hb dl_1226 hl (k := 3) rfl (by decide) (by decide) rfl (fun ls hl => ?_)
    refine lv_goto (tgt := 18) hx hb dl_1229 (by decide) ?_
    exact law_end C0 hC hL hS hc hs (lv_sub hl [0, 1] rfl)
  · exact absurd rfl hqe
set_option maxHeartbeats 4000000 in
theorem law_c7 {p : Program} {l : Launch} {e : Env} {s : State} {m : MethodId} {below : List Frame} {meth : Method} {c : Code} {b L : Nat} {xs : Nat → Int32} {g : Nat → Value} {ad : Nat → Nat} {D : va_G} {cA : Nat → ClassId} {H : Heap} {locs : List Loc} {cells slots : Nat} {ls : Array Slot} (C0 : lw_At p s m meth c b L xs) (hC : j_Cx g ad s.heap.size D cA vwCl j_TW j_zs j_ks "HundredWordsLaw" "law" code 4 p s m #[.ref b] meth c) (hL : L = 6) (hH : j_H g ad s.heap.size D cA vwCl s H jh2) (hS : va_S (j_A s.heap.size) s.heap H locs) (hc : cells ≤ 600000) (hs : slots ≤ 7302250) (hl : lv_has ls 4 [(0, .ref b), (1, .ref (ad 9)), (2, .ref (ad 117)), (3, .int 0)]) : W p l e room_1 s m #[Value.ref b] below meth c H locs cells slots (lw_Z below #[Value.ref b] s) (F0 m 413 ls []) := by
  obtain ⟨hx, hb, hr, hml, hown, hts, hX, hbl, hlocks, hgv⟩ := id C0
  have hbA : ¬ j_A s.heap.size b := Nat.not_le.mpr hbl
  refine lv_aload_n hx hb dl_413 rfl (lv_at hl 1 rfl) ?_
  refine lv_aload_n hx hb dl_414 rfl (lv_at hl 0 rfl) ?_
  refine lv_iload_n hx hb dl_415 rfl (lv_at hl 3 rfl) ?_
  refine lv_iconst (v := 1) hx hb dl_416 (by decide) ?_
  refine lv_iadd hx hb dl_417 ?_
  refine va_sld hx hb hX hbl hbA hS (i := (0 + 1)) (by rw [hL]; unfold vp_in; decide) dl_418 ?_
  refine lv_if_eq (tgt := 426) hx hb dl_419 (by decide) (fun hq0 => ?_) (fun hq0 => ?_)
  · skip
    refine lv_iconst (v := 0) hx hb dl_426 (by decide) ?_
    refine lv_aload_n hx hb dl_427 rfl (lv_at hl 0 rfl) ?_
    refine lv_iload_n hx hb dl_428 rfl (lv_at hl 3 rfl) ?_
    refine lv_iconst (v := 2) hx hb dl_429 (by decide) ?_
    refine lv_iadd hx hb dl_430 ?_
    refine va_sld hx hb hX hbl hbA hS (i := (0 + 2)) (by rw [hL]; unfold vp_in; decide) dl_431 ?_
    obtain ⟨n1, n2, w, h1, h2, r1, r2, r3⟩ := pm_sign_0 ((xs (Int32.toNatClampNeg (0 + 2))))
    refine W.eq (g2 := F0 m 432 ls ((([.int 0, .int (xs (Int32.toNatClampNeg (0 + 2)))] : List Value).map (j_rv g)).reverse ++ .ref (ad 9) :: [])) rfl ?_
    refine j_lawV hC (as := [.int 0, .int (xs (Int32.toNatClampNeg (0 + 2)))]) (a := 9) (rest := []) r1 dl_432 (j := 94) (Nat.le_of_ble_eq_true rfl) (by decide +kernel) (j_has_in (c := 4) (o := 80) (by decide +kernel)) (Nat.le_of_ble_eq_true rfl) jh2_x (show 2 = j_np 94 from by decide +kernel) (show (lg_sl _).length ≤ 4 from Nat.le_of_ble_eq_true rfl) (Nat.le_of_ble_eq_true rfl) (show 8 + (4 + 11) + 20000 ≤ 84000 from Nat.le_of_ble_eq_true rfl) (Nat.le_of_ble_eq_true rfl) hl.1 hH hS hc hs (fun H1 locs1 hH1 hS1 => ?_)
    show W p l e room_1 s m #[Value.ref b] below meth c H1 locs1 _ _ (lw_Z below #[Value.ref b] s) (F0 m 435 ls [.int w])
    have hS := hS1
    refine lv_aload_n hx hb dl_435 rfl (lv_at hl 2 rfl) ?_
    refine lv_aload_n hx hb dl_436 rfl (lv_at hl 0 rfl) ?_
    refine lv_iload_n hx hb dl_437 rfl (lv_at hl 3 rfl) ?_
    refine lv_iconst (v := 1) hx hb dl_438 (by decide) ?_
    refine lv_iadd hx hb dl_439 ?_
    refine va_sld hx hb hX hbl hbA hS (i := (0 + 1)) (by rw [hL]; unfold vp_in; decide) dl_440 ?_
    refine lv_if_eq (tgt := 448) hx hb dl_441 (by decide) (fun hq1 => ?_) (fun hq1 => ?_)
    · skip
      refine lv_iconst (v := 0) hx hb dl_448 (by decide) ?_
      refine lv_aload_n hx hb dl_449 rfl (lv_at hl 0 rfl) ?_
      refine lv_iload_n hx hb dl_450 rfl (lv_at hl 3 rfl) ?_
      refine lv_iconst (v := 2) hx hb dl_451 (by decide) ?_
      refine lv_iadd hx hb dl_452 ?_
      refine va_sld hx hb hX hbl hbA hS (i := (0 + 2)) (by rw [hL]; unfold vp_in; decide) dl_453 ?_
      refine W.eq (g2 := F0 m 454 ls ((([.int 0, .int (xs (Int32.toNatClampNeg (0 + 2)))] : List Value).map (j_rv g)).reverse ++ .ref (ad 117) :: [.int w])) rfl ?_
      refine j_lawV hC (as := [.int 0, .int (xs (Int32.toNatClampNeg (0 + 2)))]) (a := 117) (rest := [.int w]) r2 dl_454 (j := 268) (Nat.le_of_ble_eq_true rfl) (by decide +kernel) (j_has_in (c := 8) (o := 142) (by decide +kernel)) (Nat.le_of_ble_eq_true rfl) r3 (show 2 = j_np 268 from by decide +kernel) (show (lg_sl _).length ≤ 4 from Nat.le_of_ble_eq_true rfl) (Nat.le_of_ble_eq_true rfl) (show 8 + (4 + 11) + 20000 ≤ 84000 from Nat.le_of_ble_eq_true rfl) (Nat.le_of_ble_eq_true rfl) hl.1 hH1 hS1 hc hs (fun H2 locs2 hH2 hS2 => ?_)
      show W p l e room_1 s m #[Value.ref b] below meth c H2 locs2 _ _ (lw_Z below #[Value.ref b] s) (F0 m 457 ls [.int w, .int w])
      have hS := hS2
      refine lv_icmp_eq (tgt := 1226) hx hb dl_457 (by decide) (fun hqe => ?_) (fun hqe => ?_)
      · skip
        refine lv_iinc (v := 6) (lv' := [(3, .int 6), (0, .ref b), (1, .ref (ad 9)), (2, .ref (ad 117))]) hx hb dl_1226 hl (k := 3) rfl (by decide) (by decide) rfl (fun ls hl => ?_)
        refine lv_goto (tgt := 18) hx hb dl_1229 (by decide) ?_
        exact law_end C0 hC hL hS hc hs (lv_sub hl [0, 1] rfl)
      · exact absurd rfl hqe
    · exact absurd hq0 hq1
  · skip
    refine lv_iconst (v := 1) hx hb dl_422 (by decide) ?_
    refine lv_goto (tgt := 427) hx hb dl_423 (by decide) ?_
    refine lv_aload_n hx hb dl_427 rfl (lv_at hl 0 rfl) ?_
    refine lv_iload_n hx hb dl_428 rfl (lv_at hl 3 rfl) ?_
    refine lv_iconst (v := 2) hx hb dl_429 (by decide) ?_
    refine lv_iadd hx hb dl_430 ?_
    refine va_sld hx hb hX hbl hbA hS (i := (0 + 2)) (by rw [hL]; unfold vp_in; decide) dl_431 ?_
    obtain ⟨n1, n2, w, h1, h2, r1, r2, r3⟩ := pm_sign_1 ((xs (Int32.toNatClampNeg (0 + 2))))
    refine W.eq (g2 := F0 m 432 ls ((([.int 1, .int (xs (Int32.toNatClampNeg (0 + 2)))] : List Value).map (j_rv g)).reverse ++ .ref (ad 9) :: [])) rfl ?_
    refine j_lawV hC (as := [.int 1, .int (xs (Int32.toNatClampNeg (0 + 2)))]) (a := 9) (rest := []) r1 dl_432 (j := 94) (Nat.le_of_ble_eq_true rfl) (by decide +kernel) (j_has_in (c := 4) (o := 80) (by decide +kernel)) (Nat.le_of_ble_eq_true rfl) jh2_x (show 2 = j_np 94 from by decide +kernel) (show (lg_sl _).length ≤ 4 from Nat.le_of_ble_eq_true rfl) (Nat.le_of_ble_eq_true rfl) (show 8 + (4 + 11) + 20000 ≤ 84000 from Nat.le_of_ble_eq_true rfl) (Nat.le_of_ble_eq_true rfl) hl.1 hH hS hc hs (fun H1 locs1 hH1 hS1 => ?_)
    show W p l e room_1 s m #[Value.ref b] below meth c H1 locs1 _ _ (lw_Z below #[Value.ref b] s) (F0 m 435 ls [.int w])
    have hS := hS1
    refine lv_aload_n hx hb dl_435 rfl (lv_at hl 2 rfl) ?_
    refine lv_aload_n hx hb dl_436 rfl (lv_at hl 0 rfl) ?_
    refine lv_iload_n hx hb dl_437 rfl (lv_at hl 3 rfl) ?_
    refine lv_iconst (v := 1) hx hb dl_438 (by decide) ?_
    refine lv_iadd hx hb dl_439 ?_
    refine va_sld hx hb hX hbl hbA hS (i := (0 + 1)) (by rw [hL]; unfold vp_in; decide) dl_440 ?_
    refine lv_if_eq (tgt := 448) hx hb dl_441 (by decide) (fun hq1 => ?_) (fun hq1 => ?_)
    · exact absurd hq1 hq0
    · skip
      refine lv_iconst (v := 1) hx hb dl_444 (by decide) ?_
      refine lv_goto (tgt := 449) hx hb dl_445 (by decide) ?_
      refine lv_aload_n hx hb dl_449 rfl (lv_at hl 0 rfl) ?_
      refine lv_iload_n hx hb dl_450 rfl (lv_at hl 3 rfl) ?_
      refine lv_iconst (v := 2) hx hb dl_451 (by decide) ?_
      refine lv_iadd hx hb dl_452 ?_
      refine va_sld hx hb hX hbl hbA hS (i := (0 + 2)) (by rw [hL]; unfold vp_in; decide) dl_453 ?_
      refine W.eq (g2 := F0 m 454 ls ((([.int 1, .int (xs (Int32.toNatClampNeg (0 + 2)))] : List Value).map (j_rv g)).reverse ++ .ref (ad 117) :: [.int w])) rfl ?_
      refine j_lawV hC (as := [.int 1, .int (xs (Int32.toNatClampNeg (0 + 2)))]) (a := 117) (rest := [.int w]) r2 dl_454 (j := 268) (Nat.le_of_ble_eq_true rfl) (by decide +kernel) (j_has_in (c := 8) (o := 142) (by decide +kernel)) (Nat.le_of_ble_eq_true rfl) r3 (show 2 = j_np 268 from by decide +kernel) (show (lg_sl _).length ≤ 4 from Nat.le_of_ble_eq_true rfl) (Nat.le_of_ble_eq_true rfl) (show 8 + (4 + 11) + 20000 ≤ 84000 from Nat.le_of_ble_eq_true rfl) (Nat.le_of_ble_eq_true rfl) hl.1 hH1 hS1 hc hs (fun H2 locs2 hH2 hS2 => ?_)
      show W p l e room_1 s m #[Value.ref b] below meth c H2 locs2 _ _ (lw_Z below #[Value.ref b] s) (F0 m 457 ls [.int w, .int w])
      have hS := hS2
      refine lv_icmp_eq (tgt := 1226) hx hb dl_457 (by decide) (fun hqe => ?_) (fun hqe => ?_)
      · skip
        refine lv_iinc (v := 6) (lv' := [(3, .int 6), (0, .ref b), (1, .ref (ad 9)), (2, .ref (ad 117))]) hx hb dl_1226 hl (k := 3) rfl (by decide) (by decide) rfl (fun ls hl => ?_)
        refine lv_goto (tgt := 18) hx hb dl_1229 (by decide) ?_
        exact law_end C0 hC hL hS hc hs (lv_sub hl [0, 1] rfl)
      · exact absurd rfl hqe
set_option maxHeartbeats 4000000 in
theorem law_c8 {p : Program} {l : Launch} {e : Env} {s : State} {m : MethodId} {below : List Frame} {meth : Method} {c : Code} {b L : Nat} {xs : Nat → Int32} {g : Nat → Value} {ad : Nat → Nat} {D : va_G} {cA : Nat → ClassId} {H : Heap} {locs : List Loc} {cells slots : Nat} {ls : Array Slot} (C0 : lw_At p s m meth c b L xs) (hC : j_Cx g ad s.heap.size D cA vwCl j_TW j_zs j_ks "HundredWordsLaw" "law" code 4 p s m #[.ref b] meth c) (hL : L = 6) (hH : j_H g ad s.heap.size D cA vwCl s H jh2) (hS : va_S (j_A s.heap.size) s.heap H locs) (hc : cells ≤ 600000) (hs : slots ≤ 7302250) (hl : lv_has ls 4 [(0, .ref b), (1, .ref (ad 9)), (2, .ref (ad 117)), (3, .int 0)]) : W p l e room_1 s m #[Value.ref b] below meth c H locs cells slots (lw_Z below #[Value.ref b] s) (F0 m 462 ls []) := by
  obtain ⟨hx, hb, hr, hml, hown, hts, hX, hbl, hlocks, hgv⟩ := id C0
  have hbA : ¬ j_A s.heap.size b := Nat.not_le.mpr hbl
  refine lv_aload_n hx hb dl_462 rfl (lv_at hl 1 rfl) ?_
  refine lv_aload_n hx hb dl_463 rfl (lv_at hl 0 rfl) ?_
  refine lv_iload_n hx hb dl_464 rfl (lv_at hl 3 rfl) ?_
  refine lv_iconst (v := 1) hx hb dl_465 (by decide) ?_
  refine lv_iadd hx hb dl_466 ?_
  refine va_sld hx hb hX hbl hbA hS (i := (0 + 1)) (by rw [hL]; unfold vp_in; decide) dl_467 ?_
  refine lv_if_eq (tgt := 475) hx hb dl_468 (by decide) (fun hq0 => ?_) (fun hq0 => ?_)
  · skip
    refine lv_iconst (v := 0) hx hb dl_475 (by decide) ?_
    refine lv_aload_n hx hb dl_476 rfl (lv_at hl 0 rfl) ?_
    refine lv_iload_n hx hb dl_477 rfl (lv_at hl 3 rfl) ?_
    refine lv_iconst (v := 2) hx hb dl_478 (by decide) ?_
    refine lv_iadd hx hb dl_479 ?_
    refine va_sld hx hb hX hbl hbA hS (i := (0 + 2)) (by rw [hL]; unfold vp_in; decide) dl_480 ?_
    obtain ⟨n1, n2, w, h1, h2, r1, r2, r3⟩ := pm_size_0 ((xs (Int32.toNatClampNeg (0 + 2))))
    refine W.eq (g2 := F0 m 481 ls ((([.int 0, .int (xs (Int32.toNatClampNeg (0 + 2)))] : List Value).map (j_rv g)).reverse ++ .ref (ad 9) :: [])) rfl ?_
    refine j_lawV hC (as := [.int 0, .int (xs (Int32.toNatClampNeg (0 + 2)))]) (a := 9) (rest := []) r1 dl_481 (j := 95) (Nat.le_of_ble_eq_true rfl) (by decide +kernel) (j_has_in (c := 4) (o := 84) (by decide +kernel)) (Nat.le_of_ble_eq_true rfl) jh2_x (show 2 = j_np 95 from by decide +kernel) (show (lg_sl _).length ≤ 4 from Nat.le_of_ble_eq_true rfl) (Nat.le_of_ble_eq_true rfl) (show 8 + (4 + 11) + 20000 ≤ 84000 from Nat.le_of_ble_eq_true rfl) (Nat.le_of_ble_eq_true rfl) hl.1 hH hS hc hs (fun H1 locs1 hH1 hS1 => ?_)
    show W p l e room_1 s m #[Value.ref b] below meth c H1 locs1 _ _ (lw_Z below #[Value.ref b] s) (F0 m 484 ls [.int w])
    have hS := hS1
    refine lv_aload_n hx hb dl_484 rfl (lv_at hl 2 rfl) ?_
    refine lv_aload_n hx hb dl_485 rfl (lv_at hl 0 rfl) ?_
    refine lv_iload_n hx hb dl_486 rfl (lv_at hl 3 rfl) ?_
    refine lv_iconst (v := 1) hx hb dl_487 (by decide) ?_
    refine lv_iadd hx hb dl_488 ?_
    refine va_sld hx hb hX hbl hbA hS (i := (0 + 1)) (by rw [hL]; unfold vp_in; decide) dl_489 ?_
    refine lv_if_eq (tgt := 497) hx hb dl_490 (by decide) (fun hq1 => ?_) (fun hq1 => ?_)
    · skip
      refine lv_iconst (v := 0) hx hb dl_497 (by decide) ?_
      refine lv_aload_n hx hb dl_498 rfl (lv_at hl 0 rfl) ?_
      refine lv_iload_n hx hb dl_499 rfl (lv_at hl 3 rfl) ?_
      refine lv_iconst (v := 2) hx hb dl_500 (by decide) ?_
      refine lv_iadd hx hb dl_501 ?_
      refine va_sld hx hb hX hbl hbA hS (i := (0 + 2)) (by rw [hL]; unfold vp_in; decide) dl_502 ?_
      refine W.eq (g2 := F0 m 503 ls ((([.int 0, .int (xs (Int32.toNatClampNeg (0 + 2)))] : List Value).map (j_rv g)).reverse ++ .ref (ad 117) :: [.int w])) rfl ?_
      refine j_lawV hC (as := [.int 0, .int (xs (Int32.toNatClampNeg (0 + 2)))]) (a := 117) (rest := [.int w]) r2 dl_503 (j := 270) (Nat.le_of_ble_eq_true rfl) (by decide +kernel) (j_has_in (c := 8) (o := 149) (by decide +kernel)) (Nat.le_of_ble_eq_true rfl) r3 (show 2 = j_np 270 from by decide +kernel) (show (lg_sl _).length ≤ 3 from Nat.le_of_ble_eq_true rfl) (Nat.le_of_ble_eq_true rfl) (show 8 + (3 + 11) + 20000 ≤ 84000 from Nat.le_of_ble_eq_true rfl) (Nat.le_of_ble_eq_true rfl) hl.1 hH1 hS1 hc hs (fun H2 locs2 hH2 hS2 => ?_)
      show W p l e room_1 s m #[Value.ref b] below meth c H2 locs2 _ _ (lw_Z below #[Value.ref b] s) (F0 m 506 ls [.int w, .int w])
      have hS := hS2
      refine lv_icmp_eq (tgt := 1226) hx hb dl_506 (by decide) (fun hqe => ?_) (fun hqe => ?_)
      · skip
        refine lv_iinc (v := 6) (lv' := [(3, .int 6), (0, .ref b), (1, .ref (ad 9)), (2, .ref (ad 117))]) hx hb dl_1226 hl (k := 3) rfl (by decide) (by decide) rfl (fun ls hl => ?_)
        refine lv_goto (tgt := 18) hx hb dl_1229 (by decide) ?_
        exact law_end C0 hC hL hS hc hs (lv_sub hl [0, 1] rfl)
      · exact absurd rfl hqe
    · exact absurd hq0 hq1
  · skip
    refine lv_iconst (v := 1) hx hb dl_471 (by decide) ?_
    refine lv_goto (tgt := 476) hx hb dl_472 (by decide) ?_
    refine lv_aload_n hx hb dl_476 rfl (lv_at hl 0 rfl) ?_
    refine lv_iload_n hx hb dl_477 rfl (lv_at hl 3 rfl) ?_
    refine lv_iconst (v := 2) hx hb dl_478 (by decide) ?_
    refine lv_iadd hx hb dl_479 ?_
    refine va_sld hx hb hX hbl hbA hS (i := (0 + 2)) (by rw [hL]; unfold vp_in; decide) dl_480 ?_
    obtain ⟨n1, n2, w, h1, h2, r1, r2, r3⟩ := pm_size_1 ((xs (Int32.toNatClampNeg (0 + 2))))
    refine W.eq (g2 := F0 m 481 ls ((([.int 1, .int (xs (Int32.toNatClampNeg (0 + 2)))] : List Value).map (j_rv g)).reverse ++ .ref (ad 9) :: [])) rfl ?_
    refine j_lawV hC (as := [.int 1, .int (xs (Int32.toNatClampNeg (0 + 2)))]) (a := 9) (rest := []) r1 dl_481 (j := 95) (Nat.le_of_ble_eq_true rfl) (by decide +kernel) (j_has_in (c := 4) (o := 84) (by decide +kernel)) (Nat.le_of_ble_eq_true rfl) jh2_x (show 2 = j_np 95 from by decide +kernel) (show (lg_sl _).length ≤ 4 from Nat.le_of_ble_eq_true rfl) (Nat.le_of_ble_eq_true rfl) (show 8 + (4 + 11) + 20000 ≤ 84000 from Nat.le_of_ble_eq_true rfl) (Nat.le_of_ble_eq_true rfl) hl.1 hH hS hc hs (fun H1 locs1 hH1 hS1 => ?_)
    show W p l e room_1 s m #[Value.ref b] below meth c H1 locs1 _ _ (lw_Z below #[Value.ref b] s) (F0 m 484 ls [.int w])
    have hS := hS1
    refine lv_aload_n hx hb dl_484 rfl (lv_at hl 2 rfl) ?_
    refine lv_aload_n hx hb dl_485 rfl (lv_at hl 0 rfl) ?_
    refine lv_iload_n hx hb dl_486 rfl (lv_at hl 3 rfl) ?_
    refine lv_iconst (v := 1) hx hb dl_487 (by decide) ?_
    refine lv_iadd hx hb dl_488 ?_
    refine va_sld hx hb hX hbl hbA hS (i := (0 + 1)) (by rw [hL]; unfold vp_in; decide) dl_489 ?_
    refine lv_if_eq (tgt := 497) hx hb dl_490 (by decide) (fun hq1 => ?_) (fun hq1 => ?_)
    · exact absurd hq1 hq0
    · skip
      refine lv_iconst (v := 1) hx hb dl_493 (by decide) ?_
      refine lv_goto (tgt := 498) hx hb dl_494 (by decide) ?_
      refine lv_aload_n hx hb dl_498 rfl (lv_at hl 0 rfl) ?_
      refine lv_iload_n hx hb dl_499 rfl (lv_at hl 3 rfl) ?_
      refine lv_iconst (v := 2) hx hb dl_500 (by decide) ?_
      refine lv_iadd hx hb dl_501 ?_
      refine va_sld hx hb hX hbl hbA hS (i := (0 + 2)) (by rw [hL]; unfold vp_in; decide) dl_502 ?_
      refine W.eq (g2 := F0 m 503 ls ((([.int 1, .int (xs (Int32.toNatClampNeg (0 + 2)))] : List Value).map (j_rv g)).reverse ++ .ref (ad 117) :: [.int w])) rfl ?_
      refine j_lawV hC (as := [.int 1, .int (xs (Int32.toNatClampNeg (0 + 2)))]) (a := 117) (rest := [.int w]) r2 dl_503 (j := 270) (Nat.le_of_ble_eq_true rfl) (by decide +kernel) (j_has_in (c := 8) (o := 149) (by decide +kernel)) (Nat.le_of_ble_eq_true rfl) r3 (show 2 = j_np 270 from by decide +kernel) (show (lg_sl _).length ≤ 3 from Nat.le_of_ble_eq_true rfl) (Nat.le_of_ble_eq_true rfl) (show 8 + (3 + 11) + 20000 ≤ 84000 from Nat.le_of_ble_eq_true rfl) (Nat.le_of_ble_eq_true rfl) hl.1 hH1 hS1 hc hs (fun H2 locs2 hH2 hS2 => ?_)
      show W p l e room_1 s m #[Value.ref b] below meth c H2 locs2 _ _ (lw_Z below #[Value.ref b] s) (F0 m 506 ls [.int w, .int w])
      have hS := hS2
      refine lv_icmp_eq (tgt := 1226) hx hb dl_506 (by decide) (fun hqe => ?_) (fun hqe => ?_)
      · skip
        refine lv_iinc (v := 6) (lv' := [(3, .int 6), (0, .ref b), (1, .ref (ad 9)), (2, .ref (ad 117))]) hx hb dl_1226 hl (k := 3) rfl (by decide) (by decide) rfl (fun ls hl => ?_)
        refine lv_goto (tgt := 18) hx hb dl_1229 (by decide) ?_
        exact law_end C0 hC hL hS hc hs (lv_sub hl [0, 1] rfl)
      · exact absurd rfl hqe
set_option maxHeartbeats 4000000 in
theorem law_c9 {p : Program} {l : Launch} {e : Env} {s : State} {m : MethodId} {below : List Frame} {meth : Method} {c : Code} {b L : Nat} {xs : Nat → Int32} {g : Nat → Value} {ad : Nat → Nat} {D : va_G} {cA : Nat → ClassId} {H : Heap} {locs : List Loc} {cells slots : Nat} {ls : Array Slot} (C0 : lw_At p s m meth c b L xs) (hC : j_Cx g ad s.heap.size D cA vwCl j_TW j_zs j_ks "HundredWordsLaw" "law" code 4 p s m #[.ref b] meth c) (hL : L = 6) (hH : j_H g ad s.heap.size D cA vwCl s H jh2) (hS : va_S (j_A s.heap.size) s.heap H locs) (hc : cells ≤ 600000) (hs : slots ≤ 7302250) (hl : lv_has ls 4 [(0, .ref b), (1, .ref (ad 9)), (2, .ref (ad 117)), (3, .int 0)]) : W p l e room_1 s m #[Value.ref b] below meth c H locs cells slots (lw_Z below #[Value.ref b] s) (F0 m 511 ls []) := by
  obtain ⟨hx, hb, hr, hml, hown, hts, hX, hbl, hlocks, hgv⟩ := id C0
  have hbA : ¬ j_A s.heap.size b := Nat.not_le.mpr hbl
  refine lv_aload_n hx hb dl_511 rfl (lv_at hl 1 rfl) ?_
  refine lv_aload_n hx hb dl_512 rfl (lv_at hl 0 rfl) ?_
  refine lv_iload_n hx hb dl_513 rfl (lv_at hl 3 rfl) ?_
  refine lv_iconst (v := 1) hx hb dl_514 (by decide) ?_
  refine lv_iadd hx hb dl_515 ?_
  refine va_sld hx hb hX hbl hbA hS (i := (0 + 1)) (by rw [hL]; unfold vp_in; decide) dl_516 ?_
  refine lv_if_eq (tgt := 524) hx hb dl_517 (by decide) (fun hq0 => ?_) (fun hq0 => ?_)
  · skip
    refine lv_iconst (v := 0) hx hb dl_524 (by decide) ?_
    refine lv_aload_n hx hb dl_525 rfl (lv_at hl 0 rfl) ?_
    refine lv_iload_n hx hb dl_526 rfl (lv_at hl 3 rfl) ?_
    refine lv_iconst (v := 2) hx hb dl_527 (by decide) ?_
    refine lv_iadd hx hb dl_528 ?_
    refine va_sld hx hb hX hbl hbA hS (i := (0 + 2)) (by rw [hL]; unfold vp_in; decide) dl_529 ?_
    obtain ⟨n1, n2, w, h1, h2, r1, r2, r3⟩ := pm_forbids_0 ((xs (Int32.toNatClampNeg (0 + 2))))
    refine W.eq (g2 := F0 m 530 ls ((([.int 0, .int (xs (Int32.toNatClampNeg (0 + 2)))] : List Value).map (j_rv g)).reverse ++ .ref (ad 9) :: [])) rfl ?_
    refine j_lawV hC (as := [.int 0, .int (xs (Int32.toNatClampNeg (0 + 2)))]) (a := 9) (rest := []) r1 dl_530 (j := 99) (Nat.le_of_ble_eq_true rfl) (by decide +kernel) (j_has_in (c := 4) (o := 102) (by decide +kernel)) (Nat.le_of_ble_eq_true rfl) jh2_x (show 2 = j_np 99 from by decide +kernel) (show (lg_sl _).length ≤ 4 from Nat.le_of_ble_eq_true rfl) (Nat.le_of_ble_eq_true rfl) (show 8 + (4 + 11) + 20000 ≤ 84000 from Nat.le_of_ble_eq_true rfl) (Nat.le_of_ble_eq_true rfl) hl.1 hH hS hc hs (fun H1 locs1 hH1 hS1 => ?_)
    show W p l e room_1 s m #[Value.ref b] below meth c H1 locs1 _ _ (lw_Z below #[Value.ref b] s) (F0 m 533 ls [.int w])
    have hS := hS1
    refine lv_aload_n hx hb dl_533 rfl (lv_at hl 2 rfl) ?_
    refine lv_aload_n hx hb dl_534 rfl (lv_at hl 0 rfl) ?_
    refine lv_iload_n hx hb dl_535 rfl (lv_at hl 3 rfl) ?_
    refine lv_iconst (v := 1) hx hb dl_536 (by decide) ?_
    refine lv_iadd hx hb dl_537 ?_
    refine va_sld hx hb hX hbl hbA hS (i := (0 + 1)) (by rw [hL]; unfold vp_in; decide) dl_538 ?_
    refine lv_if_eq (tgt := 546) hx hb dl_539 (by decide) (fun hq1 => ?_) (fun hq1 => ?_)
    · skip
      refine lv_iconst (v := 0) hx hb dl_546 (by decide) ?_
      refine lv_aload_n hx hb dl_547 rfl (lv_at hl 0 rfl) ?_
      refine lv_iload_n hx hb dl_548 rfl (lv_at hl 3 rfl) ?_
      refine lv_iconst (v := 2) hx hb dl_549 (by decide) ?_
      refine lv_iadd hx hb dl_550 ?_
      refine va_sld hx hb hX hbl hbA hS (i := (0 + 2)) (by rw [hL]; unfold vp_in; decide) dl_551 ?_
      refine W.eq (g2 := F0 m 552 ls ((([.int 0, .int (xs (Int32.toNatClampNeg (0 + 2)))] : List Value).map (j_rv g)).reverse ++ .ref (ad 117) :: [.int w])) rfl ?_
      refine j_lawV hC (as := [.int 0, .int (xs (Int32.toNatClampNeg (0 + 2)))]) (a := 117) (rest := [.int w]) r2 dl_552 (j := 275) (Nat.le_of_ble_eq_true rfl) (by decide +kernel) (j_has_in (c := 8) (o := 168) (by decide +kernel)) (Nat.le_of_ble_eq_true rfl) r3 (show 2 = j_np 275 from by decide +kernel) (show (lg_sl _).length ≤ 3 from Nat.le_of_ble_eq_true rfl) (Nat.le_of_ble_eq_true rfl) (show 8 + (3 + 11) + 20000 ≤ 84000 from Nat.le_of_ble_eq_true rfl) (Nat.le_of_ble_eq_true rfl) hl.1 hH1 hS1 hc hs (fun H2 locs2 hH2 hS2 => ?_)
      show W p l e room_1 s m #[Value.ref b] below meth c H2 locs2 _ _ (lw_Z below #[Value.ref b] s) (F0 m 555 ls [.int w, .int w])
      have hS := hS2
      refine lv_icmp_eq (tgt := 1226) hx hb dl_555 (by decide) (fun hqe => ?_) (fun hqe => ?_)
      · skip
        refine lv_iinc (v := 6) (lv' := [(3, .int 6), (0, .ref b), (1, .ref (ad 9)), (2, .ref (ad 117))]) hx hb dl_1226 hl (k := 3) rfl (by decide) (by decide) rfl (fun ls hl => ?_)
        refine lv_goto (tgt := 18) hx hb dl_1229 (by decide) ?_
        exact law_end C0 hC hL hS hc hs (lv_sub hl [0, 1] rfl)
      · exact absurd rfl hqe
    · exact absurd hq0 hq1
  · skip
    refine lv_iconst (v := 1) hx hb dl_520 (by decide) ?_
    refine lv_goto (tgt := 525) hx hb dl_521 (by decide) ?_
    refine lv_aload_n hx hb dl_525 rfl (lv_at hl 0 rfl) ?_
    refine lv_iload_n hx hb dl_526 rfl (lv_at hl 3 rfl) ?_
    refine lv_iconst (v := 2) hx hb dl_527 (by decide) ?_
    refine lv_iadd hx hb dl_528 ?_
    refine va_sld hx hb hX hbl hbA hS (i := (0 + 2)) (by rw [hL]; unfold vp_in; decide) dl_529 ?_
    obtain ⟨n1, n2, w, h1, h2, r1, r2, r3⟩ := pm_forbids_1 ((xs (Int32.toNatClampNeg (0 + 2))))
    refine W.eq (g2 := F0 m 530 ls ((([.int 1, .int (xs (Int32.toNatClampNeg (0 + 2)))] : List Value).map (j_rv g)).reverse ++ .ref (ad 9) :: [])) rfl ?_
    refine j_lawV hC (as := [.int 1, .int (xs (Int32.toNatClampNeg (0 + 2)))]) (a := 9) (rest := []) r1 dl_530 (j := 99) (Nat.le_of_ble_eq_true rfl) (by decide +kernel) (j_has_in (c := 4) (o := 102) (by decide +kernel)) (Nat.le_of_ble_eq_true rfl) jh2_x (show 2 = j_np 99 from by decide +kernel) (show (lg_sl _).length ≤ 4 from Nat.le_of_ble_eq_true rfl) (Nat.le_of_ble_eq_true rfl) (show 8 + (4 + 11) + 20000 ≤ 84000 from Nat.le_of_ble_eq_true rfl) (Nat.le_of_ble_eq_true rfl) hl.1 hH hS hc hs (fun H1 locs1 hH1 hS1 => ?_)
    show W p l e room_1 s m #[Value.ref b] below meth c H1 locs1 _ _ (lw_Z below #[Value.ref b] s) (F0 m 533 ls [.int w])
    have hS := hS1
    refine lv_aload_n hx hb dl_533 rfl (lv_at hl 2 rfl) ?_
    refine lv_aload_n hx hb dl_534 rfl (lv_at hl 0 rfl) ?_
    refine lv_iload_n hx hb dl_535 rfl (lv_at hl 3 rfl) ?_
    refine lv_iconst (v := 1) hx hb dl_536 (by decide) ?_
    refine lv_iadd hx hb dl_537 ?_
    refine va_sld hx hb hX hbl hbA hS (i := (0 + 1)) (by rw [hL]; unfold vp_in; decide) dl_538 ?_
    refine lv_if_eq (tgt := 546) hx hb dl_539 (by decide) (fun hq1 => ?_) (fun hq1 => ?_)
    · exact absurd hq1 hq0
    · skip
      refine lv_iconst (v := 1) hx hb dl_542 (by decide) ?_
      refine lv_goto (tgt := 547) hx hb dl_543 (by decide) ?_
      refine lv_aload_n hx hb dl_547 rfl (lv_at hl 0 rfl) ?_
      refine lv_iload_n hx hb dl_548 rfl (lv_at hl 3 rfl) ?_
      refine lv_iconst (v := 2) hx hb dl_549 (by decide) ?_
      refine lv_iadd hx hb dl_550 ?_
      refine va_sld hx hb hX hbl hbA hS (i := (0 + 2)) (by rw [hL]; unfold vp_in; decide) dl_551 ?_
      refine W.eq (g2 := F0 m 552 ls ((([.int 1, .int (xs (Int32.toNatClampNeg (0 + 2)))] : List Value).map (j_rv g)).reverse ++ .ref (ad 117) :: [.int w])) rfl ?_
      refine j_lawV hC (as := [.int 1, .int (xs (Int32.toNatClampNeg (0 + 2)))]) (a := 117) (rest := [.int w]) r2 dl_552 (j := 275) (Nat.le_of_ble_eq_true rfl) (by decide +kernel) (j_has_in (c := 8) (o := 168) (by decide +kernel)) (Nat.le_of_ble_eq_true rfl) r3 (show 2 = j_np 275 from by decide +kernel) (show (lg_sl _).length ≤ 3 from Nat.le_of_ble_eq_true rfl) (Nat.le_of_ble_eq_true rfl) (show 8 + (3 + 11) + 20000 ≤ 84000 from Nat.le_of_ble_eq_true rfl) (Nat.le_of_ble_eq_true rfl) hl.1 hH1 hS1 hc hs (fun H2 locs2 hH2 hS2 => ?_)
      show W p l e room_1 s m #[Value.ref b] below meth c H2 locs2 _ _ (lw_Z below #[Value.ref b] s) (F0 m 555 ls [.int w, .int w])
      have hS := hS2
      refine lv_icmp_eq (tgt := 1226) hx hb dl_555 (by decide) (fun hqe => ?_) (fun hqe => ?_)
      · skip
        refine lv_iinc (v := 6) (lv' := [(3, .int 6), (0, .ref b), (1, .ref (ad 9)), (2, .ref (ad 117))]) hx hb dl_1226 hl (k := 3) rfl (by decide) (by decide) rfl (fun ls hl => ?_)
        refine lv_goto (tgt := 18) hx hb dl_1229 (by decide) ?_
        exact law_end C0 hC hL hS hc hs (lv_sub hl [0, 1] rfl)
      · exact absurd rfl hqe
set_option maxHeartbeats 4000000 in
theorem law_c10 {p : Program} {l : Launch} {e : Env} {s : State} {m : MethodId} {below : List Frame} {meth : Method} {c : Code} {b L : Nat} {xs : Nat → Int32} {g : Nat → Value} {ad : Nat → Nat} {D : va_G} {cA : Nat → ClassId} {H : Heap} {locs : List Loc} {cells slots : Nat} {ls : Array Slot} (C0 : lw_At p s m meth c b L xs) (hC : j_Cx g ad s.heap.size D cA vwCl j_TW j_zs j_ks "HundredWordsLaw" "law" code 4 p s m #[.ref b] meth c) (hL : L = 6) (hH : j_H g ad s.heap.size D cA vwCl s H jh2) (hS : va_S (j_A s.heap.size) s.heap H locs) (hc : cells ≤ 600000) (hs : slots ≤ 7302250) (hl : lv_has ls 4 [(0, .ref b), (1, .ref (ad 9)), (2, .ref (ad 117)), (3, .int 0)]) : W p l e room_1 s m #[Value.ref b] below meth c H locs cells slots (lw_Z below #[Value.ref b] s) (F0 m 560 ls []) := by
  obtain ⟨hx, hb, hr, hml, hown, hts, hX, hbl, hlocks, hgv⟩ := id C0
  have hbA : ¬ j_A s.heap.size b := Nat.not_le.mpr hbl
  refine lv_aload_n hx hb dl_560 rfl (lv_at hl 1 rfl) ?_
  refine lv_aload_n hx hb dl_561 rfl (lv_at hl 0 rfl) ?_
  refine lv_iload_n hx hb dl_562 rfl (lv_at hl 3 rfl) ?_
  refine lv_iconst (v := 1) hx hb dl_563 (by decide) ?_
  refine lv_iadd hx hb dl_564 ?_
  refine va_sld hx hb hX hbl hbA hS (i := (0 + 1)) (by rw [hL]; unfold vp_in; decide) dl_565 ?_
  refine lv_aload_n hx hb dl_566 rfl (lv_at hl 0 rfl) ?_
  refine lv_iload_n hx hb dl_567 rfl (lv_at hl 3 rfl) ?_
  refine lv_iconst (v := 2) hx hb dl_568 (by decide) ?_
  refine lv_iadd hx hb dl_569 ?_
  refine va_sld hx hb hX hbl hbA hS (i := (0 + 2)) (by rw [hL]; unfold vp_in; decide) dl_570 ?_
  obtain ⟨n1, n2, w, h1, h2, r1, r2, r3⟩ := pm_borne ((xs (Int32.toNatClampNeg (0 + 1)))) ((xs (Int32.toNatClampNeg (0 + 2))))
  refine W.eq (g2 := F0 m 571 ls ((([.int (xs (Int32.toNatClampNeg (0 + 1))), .int (xs (Int32.toNatClampNeg (0 + 2)))] : List Value).map (j_rv g)).reverse ++ .ref (ad 9) :: [])) rfl ?_
  refine j_lawV hC (as := [.int (xs (Int32.toNatClampNeg (0 + 1))), .int (xs (Int32.toNatClampNeg (0 + 2)))]) (a := 9) (rest := []) r1 dl_571 (j := 102) (Nat.le_of_ble_eq_true rfl) (by decide +kernel) (j_has_in (c := 4) (o := 113) (by decide +kernel)) (Nat.le_of_ble_eq_true rfl) jh2_x (show 2 = j_np 102 from by decide +kernel) (show (lg_sl _).length ≤ 3 from Nat.le_of_ble_eq_true rfl) (Nat.le_of_ble_eq_true rfl) (show 8 + (3 + 11) + 20000 ≤ 84000 from Nat.le_of_ble_eq_true rfl) (Nat.le_of_ble_eq_true rfl) hl.1 hH hS hc hs (fun H1 locs1 hH1 hS1 => ?_)
  show W p l e room_1 s m #[Value.ref b] below meth c H1 locs1 _ _ (lw_Z below #[Value.ref b] s) (F0 m 574 ls [.int w])
  have hS := hS1
  refine lv_aload_n hx hb dl_574 rfl (lv_at hl 2 rfl) ?_
  refine lv_aload_n hx hb dl_575 rfl (lv_at hl 0 rfl) ?_
  refine lv_iload_n hx hb dl_576 rfl (lv_at hl 3 rfl) ?_
  refine lv_iconst (v := 1) hx hb dl_577 (by decide) ?_
  refine lv_iadd hx hb dl_578 ?_
  refine va_sld hx hb hX hbl hbA hS (i := (0 + 1)) (by rw [hL]; unfold vp_in; decide) dl_579 ?_
  refine lv_aload_n hx hb dl_580 rfl (lv_at hl 0 rfl) ?_
  refine lv_iload_n hx hb dl_581 rfl (lv_at hl 3 rfl) ?_
  refine lv_iconst (v := 2) hx hb dl_582 (by decide) ?_
  refine lv_iadd hx hb dl_583 ?_
  refine va_sld hx hb hX hbl hbA hS (i := (0 + 2)) (by rw [hL]; unfold vp_in; decide) dl_584 ?_
  refine W.eq (g2 := F0 m 585 ls ((([.int (xs (Int32.toNatClampNeg (0 + 1))), .int (xs (Int32.toNatClampNeg (0 + 2)))] : List Value).map (j_rv g)).reverse ++ .ref (ad 117) :: [.int w])) rfl ?_
  refine j_lawV hC (as := [.int (xs (Int32.toNatClampNeg (0 + 1))), .int (xs (Int32.toNatClampNeg (0 + 2)))]) (a := 117) (rest := [.int w]) r2 dl_585 (j := 278) (Nat.le_of_ble_eq_true rfl) (by decide +kernel) (j_has_in (c := 8) (o := 180) (by decide +kernel)) (Nat.le_of_ble_eq_true rfl) r3 (show 2 = j_np 278 from by decide +kernel) (show (lg_sl _).length ≤ 6 from Nat.le_of_ble_eq_true rfl) (Nat.le_of_ble_eq_true rfl) (show 8 + (6 + 11) + 20000 ≤ 84000 from Nat.le_of_ble_eq_true rfl) (Nat.le_of_ble_eq_true rfl) hl.1 hH1 hS1 hc hs (fun H2 locs2 hH2 hS2 => ?_)
  show W p l e room_1 s m #[Value.ref b] below meth c H2 locs2 _ _ (lw_Z below #[Value.ref b] s) (F0 m 588 ls [.int w, .int w])
  have hS := hS2
  refine lv_icmp_eq (tgt := 1226) hx hb dl_588 (by decide) (fun hqe => ?_) (fun hqe => ?_)
  · skip
    refine lv_iinc (v := 6) (lv' := [(3, .int 6), (0, .ref b), (1, .ref (ad 9)), (2, .ref (ad 117))]) hx hb dl_1226 hl (k := 3) rfl (by decide) (by decide) rfl (fun ls hl => ?_)
    refine lv_goto (tgt := 18) hx hb dl_1229 (by decide) ?_
    exact law_end C0 hC hL hS hc hs (lv_sub hl [0, 1] rfl)
  · exact absurd rfl hqe
set_option maxHeartbeats 4000000 in
theorem law_c11 {p : Program} {l : Launch} {e : Env} {s : State} {m : MethodId} {below : List Frame} {meth : Method} {c : Code} {b L : Nat} {xs : Nat → Int32} {g : Nat → Value} {ad : Nat → Nat} {D : va_G} {cA : Nat → ClassId} {H : Heap} {locs : List Loc} {cells slots : Nat} {ls : Array Slot} (C0 : lw_At p s m meth c b L xs) (hC : j_Cx g ad s.heap.size D cA vwCl j_TW j_zs j_ks "HundredWordsLaw" "law" code 4 p s m #[.ref b] meth c) (hL : L = 6) (hH : j_H g ad s.heap.size D cA vwCl s H jh2) (hS : va_S (j_A s.heap.size) s.heap H locs) (hc : cells ≤ 600000) (hs : slots ≤ 7302250) (hl : lv_has ls 4 [(0, .ref b), (1, .ref (ad 9)), (2, .ref (ad 117)), (3, .int 0)]) : W p l e room_1 s m #[Value.ref b] below meth c H locs cells slots (lw_Z below #[Value.ref b] s) (F0 m 593 ls []) := by
  obtain ⟨hx, hb, hr, hml, hown, hts, hX, hbl, hlocks, hgv⟩ := id C0
  have hbA : ¬ j_A s.heap.size b := Nat.not_le.mpr hbl
  refine lv_aload_n hx hb dl_593 rfl (lv_at hl 1 rfl) ?_
  refine lv_aload_n hx hb dl_594 rfl (lv_at hl 0 rfl) ?_
  refine lv_iload_n hx hb dl_595 rfl (lv_at hl 3 rfl) ?_
  refine lv_iconst (v := 1) hx hb dl_596 (by decide) ?_
  refine lv_iadd hx hb dl_597 ?_
  refine va_sld hx hb hX hbl hbA hS (i := (0 + 1)) (by rw [hL]; unfold vp_in; decide) dl_598 ?_
  refine lv_aload_n hx hb dl_599 rfl (lv_at hl 0 rfl) ?_
  refine lv_iload_n hx hb dl_600 rfl (lv_at hl 3 rfl) ?_
  refine lv_iconst (v := 2) hx hb dl_601 (by decide) ?_
  refine lv_iadd hx hb dl_602 ?_
  refine va_sld hx hb hX hbl hbA hS (i := (0 + 2)) (by rw [hL]; unfold vp_in; decide) dl_603 ?_
  obtain ⟨n1, n2, w, h1, h2, r1, r2, r3⟩ := pm_led ((xs (Int32.toNatClampNeg (0 + 1)))) ((xs (Int32.toNatClampNeg (0 + 2))))
  refine W.eq (g2 := F0 m 604 ls ((([.int (xs (Int32.toNatClampNeg (0 + 1))), .int (xs (Int32.toNatClampNeg (0 + 2)))] : List Value).map (j_rv g)).reverse ++ .ref (ad 9) :: [])) rfl ?_
  refine j_lawV hC (as := [.int (xs (Int32.toNatClampNeg (0 + 1))), .int (xs (Int32.toNatClampNeg (0 + 2)))]) (a := 9) (rest := []) r1 dl_604 (j := 104) (Nat.le_of_ble_eq_true rfl) (by decide +kernel) (j_has_in (c := 4) (o := 122) (by decide +kernel)) (Nat.le_of_ble_eq_true rfl) jh2_x (show 2 = j_np 104 from by decide +kernel) (show (lg_sl _).length ≤ 5 from Nat.le_of_ble_eq_true rfl) (Nat.le_of_ble_eq_true rfl) (show 8 + (5 + 11) + 20000 ≤ 84000 from Nat.le_of_ble_eq_true rfl) (Nat.le_of_ble_eq_true rfl) hl.1 hH hS hc hs (fun H1 locs1 hH1 hS1 => ?_)
  show W p l e room_1 s m #[Value.ref b] below meth c H1 locs1 _ _ (lw_Z below #[Value.ref b] s) (F0 m 607 ls [.int w])
  have hS := hS1
  refine lv_aload_n hx hb dl_607 rfl (lv_at hl 2 rfl) ?_
  refine lv_aload_n hx hb dl_608 rfl (lv_at hl 0 rfl) ?_
  refine lv_iload_n hx hb dl_609 rfl (lv_at hl 3 rfl) ?_
  refine lv_iconst (v := 1) hx hb dl_610 (by decide) ?_
  refine lv_iadd hx hb dl_611 ?_
  refine va_sld hx hb hX hbl hbA hS (i := (0 + 1)) (by rw [hL]; unfold vp_in; decide) dl_612 ?_
  refine lv_aload_n hx hb dl_613 rfl (lv_at hl 0 rfl) ?_
  refine lv_iload_n hx hb dl_614 rfl (lv_at hl 3 rfl) ?_
  refine lv_iconst (v := 2) hx hb dl_615 (by decide) ?_
  refine lv_iadd hx hb dl_616 ?_
  refine va_sld hx hb hX hbl hbA hS (i := (0 + 2)) (by rw [hL]; unfold vp_in; decide) dl_617 ?_
  refine W.eq (g2 := F0 m 618 ls ((([.int (xs (Int32.toNatClampNeg (0 + 1))), .int (xs (Int32.toNatClampNeg (0 + 2)))] : List Value).map (j_rv g)).reverse ++ .ref (ad 117) :: [.int w])) rfl ?_
  refine j_lawV hC (as := [.int (xs (Int32.toNatClampNeg (0 + 1))), .int (xs (Int32.toNatClampNeg (0 + 2)))]) (a := 117) (rest := [.int w]) r2 dl_618 (j := 279) (Nat.le_of_ble_eq_true rfl) (by decide +kernel) (j_has_in (c := 8) (o := 184) (by decide +kernel)) (Nat.le_of_ble_eq_true rfl) r3 (show 2 = j_np 279 from by decide +kernel) (show (lg_sl _).length ≤ 5 from Nat.le_of_ble_eq_true rfl) (Nat.le_of_ble_eq_true rfl) (show 8 + (5 + 11) + 20000 ≤ 84000 from Nat.le_of_ble_eq_true rfl) (Nat.le_of_ble_eq_true rfl) hl.1 hH1 hS1 hc hs (fun H2 locs2 hH2 hS2 => ?_)
  show W p l e room_1 s m #[Value.ref b] below meth c H2 locs2 _ _ (lw_Z below #[Value.ref b] s) (F0 m 621 ls [.int w, .int w])
  have hS := hS2
  refine lv_icmp_eq (tgt := 1226) hx hb dl_621 (by decide) (fun hqe => ?_) (fun hqe => ?_)
  · skip
    refine lv_iinc (v := 6) (lv' := [(3, .int 6), (0, .ref b), (1, .ref (ad 9)), (2, .ref (ad 117))]) hx hb dl_1226 hl (k := 3) rfl (by decide) (by decide) rfl (fun ls hl => ?_)
    refine lv_goto (tgt := 18) hx hb dl_1229 (by decide) ?_
    exact law_end C0 hC hL hS hc hs (lv_sub hl [0, 1] rfl)
  · exact absurd rfl hqe
set_option maxHeartbeats 4000000 in
theorem law_c12 {p : Program} {l : Launch} {e : Env} {s : State} {m : MethodId} {below : List Frame} {meth : Method} {c : Code} {b L : Nat} {xs : Nat → Int32} {g : Nat → Value} {ad : Nat → Nat} {D : va_G} {cA : Nat → ClassId} {H : Heap} {locs : List Loc} {cells slots : Nat} {ls : Array Slot} (C0 : lw_At p s m meth c b L xs) (hC : j_Cx g ad s.heap.size D cA vwCl j_TW j_zs j_ks "HundredWordsLaw" "law" code 4 p s m #[.ref b] meth c) (hL : L = 6) (hH : j_H g ad s.heap.size D cA vwCl s H jh2) (hS : va_S (j_A s.heap.size) s.heap H locs) (hc : cells ≤ 600000) (hs : slots ≤ 7302250) (hl : lv_has ls 4 [(0, .ref b), (1, .ref (ad 9)), (2, .ref (ad 117)), (3, .int 0)]) : W p l e room_1 s m #[Value.ref b] below meth c H locs cells slots (lw_Z below #[Value.ref b] s) (F0 m 626 ls []) := by
  obtain ⟨hx, hb, hr, hml, hown, hts, hX, hbl, hlocks, hgv⟩ := id C0
  have hbA : ¬ j_A s.heap.size b := Nat.not_le.mpr hbl
  refine lv_aload_n hx hb dl_626 rfl (lv_at hl 1 rfl) ?_
  refine lv_aload_n hx hb dl_627 rfl (lv_at hl 0 rfl) ?_
  refine lv_iload_n hx hb dl_628 rfl (lv_at hl 3 rfl) ?_
  refine lv_iconst (v := 1) hx hb dl_629 (by decide) ?_
  refine lv_iadd hx hb dl_630 ?_
  refine va_sld hx hb hX hbl hbA hS (i := (0 + 1)) (by rw [hL]; unfold vp_in; decide) dl_631 ?_
  obtain ⟨n1, n2, w, h1, h2, r1, r2, r3⟩ := pm_price ((xs (Int32.toNatClampNeg (0 + 1))))
  refine W.eq (g2 := F0 m 632 ls ((([.int (xs (Int32.toNatClampNeg (0 + 1)))] : List Value).map (j_rv g)).reverse ++ .ref (ad 9) :: [])) rfl ?_
  refine j_lawV hC (as := [.int (xs (Int32.toNatClampNeg (0 + 1)))]) (a := 9) (rest := []) r1 dl_632 (j := 113) (Nat.le_of_ble_eq_true rfl) (by decide +kernel) (j_has_in (c := 4) (o := 157) (by decide +kernel)) (Nat.le_of_ble_eq_true rfl) jh2_x (show 1 = j_np 113 from by decide +kernel) (show (lg_sl _).length ≤ 2 from Nat.le_of_ble_eq_true rfl) (Nat.le_of_ble_eq_true rfl) (show 8 + (2 + 11) + 20000 ≤ 84000 from Nat.le_of_ble_eq_true rfl) (Nat.le_of_ble_eq_true rfl) hl.1 hH hS hc hs (fun H1 locs1 hH1 hS1 => ?_)
  show W p l e room_1 s m #[Value.ref b] below meth c H1 locs1 _ _ (lw_Z below #[Value.ref b] s) (F0 m 635 ls [.int w])
  have hS := hS1
  refine lv_aload_n hx hb dl_635 rfl (lv_at hl 2 rfl) ?_
  refine lv_aload_n hx hb dl_636 rfl (lv_at hl 0 rfl) ?_
  refine lv_iload_n hx hb dl_637 rfl (lv_at hl 3 rfl) ?_
  refine lv_iconst (v := 1) hx hb dl_638 (by decide) ?_
  refine lv_iadd hx hb dl_639 ?_
  refine va_sld hx hb hX hbl hbA hS (i := (0 + 1)) (by rw [hL]; unfold vp_in; decide) dl_640 ?_
  refine W.eq (g2 := F0 m 641 ls ((([.int (xs (Int32.toNatClampNeg (0 + 1)))] : List Value).map (j_rv g)).reverse ++ .ref (ad 117) :: [.int w])) rfl ?_
  refine j_lawV hC (as := [.int (xs (Int32.toNatClampNeg (0 + 1)))]) (a := 117) (rest := [.int w]) r2 dl_641 (j := 284) (Nat.le_of_ble_eq_true rfl) (by decide +kernel) (j_has_in (c := 8) (o := 204) (by decide +kernel)) (Nat.le_of_ble_eq_true rfl) r3 (show 1 = j_np 284 from by decide +kernel) (show (lg_sl _).length ≤ 4 from Nat.le_of_ble_eq_true rfl) (Nat.le_of_ble_eq_true rfl) (show 8 + (4 + 11) + 20000 ≤ 84000 from Nat.le_of_ble_eq_true rfl) (Nat.le_of_ble_eq_true rfl) hl.1 hH1 hS1 hc hs (fun H2 locs2 hH2 hS2 => ?_)
  show W p l e room_1 s m #[Value.ref b] below meth c H2 locs2 _ _ (lw_Z below #[Value.ref b] s) (F0 m 644 ls [.int w, .int w])
  have hS := hS2
  refine lv_icmp_eq (tgt := 1226) hx hb dl_644 (by decide) (fun hqe => ?_) (fun hqe => ?_)
  · skip
    refine lv_iinc (v := 6) (lv' := [(3, .int 6), (0, .ref b), (1, .ref (ad 9)), (2, .ref (ad 117))]) hx hb dl_1226 hl (k := 3) rfl (by decide) (by decide) rfl (fun ls hl => ?_)
    refine lv_goto (tgt := 18) hx hb dl_1229 (by decide) ?_
    exact law_end C0 hC hL hS hc hs (lv_sub hl [0, 1] rfl)
  · exact absurd rfl hqe
set_option maxHeartbeats 4000000 in
theorem law_c13 {p : Program} {l : Launch} {e : Env} {s : State} {m : MethodId} {below : List Frame} {meth : Method} {c : Code} {b L : Nat} {xs : Nat → Int32} {g : Nat → Value} {ad : Nat → Nat} {D : va_G} {cA : Nat → ClassId} {H : Heap} {locs : List Loc} {cells slots : Nat} {ls : Array Slot} (C0 : lw_At p s m meth c b L xs) (hC : j_Cx g ad s.heap.size D cA vwCl j_TW j_zs j_ks "HundredWordsLaw" "law" code 4 p s m #[.ref b] meth c) (hL : L = 6) (hH : j_H g ad s.heap.size D cA vwCl s H jh2) (hS : va_S (j_A s.heap.size) s.heap H locs) (hc : cells ≤ 600000) (hs : slots ≤ 7302250) (hl : lv_has ls 4 [(0, .ref b), (1, .ref (ad 9)), (2, .ref (ad 117)), (3, .int 0)]) : W p l e room_1 s m #[Value.ref b] below meth c H locs cells slots (lw_Z below #[Value.ref b] s) (F0 m 649 ls []) := by
  obtain ⟨hx, hb, hr, hml, hown, hts, hX, hbl, hlocks, hgv⟩ := id C0
  have hbA : ¬ j_A s.heap.size b := Nat.not_le.mpr hbl
  refine lv_aload_n hx hb dl_649 rfl (lv_at hl 1 rfl) ?_
  refine lv_aload_n hx hb dl_650 rfl (lv_at hl 0 rfl) ?_
  refine lv_iload_n hx hb dl_651 rfl (lv_at hl 3 rfl) ?_
  refine lv_iconst (v := 1) hx hb dl_652 (by decide) ?_
  refine lv_iadd hx hb dl_653 ?_
  refine va_sld hx hb hX hbl hbA hS (i := (0 + 1)) (by rw [hL]; unfold vp_in; decide) dl_654 ?_
  refine lv_aload_n hx hb dl_655 rfl (lv_at hl 0 rfl) ?_
  refine lv_iload_n hx hb dl_656 rfl (lv_at hl 3 rfl) ?_
  refine lv_iconst (v := 2) hx hb dl_657 (by decide) ?_
  refine lv_iadd hx hb dl_658 ?_
  refine va_sld hx hb hX hbl hbA hS (i := (0 + 2)) (by rw [hL]; unfold vp_in; decide) dl_659 ?_
  obtain ⟨n1, n2, w, h1, h2, r1, r2, r3⟩ := pm_put ((xs (Int32.toNatClampNeg (0 + 1)))) ((xs (Int32.toNatClampNeg (0 + 2))))
  refine W.eq (g2 := F0 m 660 ls ((([.int (xs (Int32.toNatClampNeg (0 + 1))), .int (xs (Int32.toNatClampNeg (0 + 2)))] : List Value).map (j_rv g)).reverse ++ .ref (ad 9) :: [])) rfl ?_
  refine j_lawV hC (as := [.int (xs (Int32.toNatClampNeg (0 + 1))), .int (xs (Int32.toNatClampNeg (0 + 2)))]) (a := 9) (rest := []) r1 dl_660 (j := 114) (Nat.le_of_ble_eq_true rfl) (by decide +kernel) (j_has_in (c := 4) (o := 161) (by decide +kernel)) (Nat.le_of_ble_eq_true rfl) jh2_x (show 2 = j_np 114 from by decide +kernel) (show (lg_sl _).length ≤ 3 from Nat.le_of_ble_eq_true rfl) (Nat.le_of_ble_eq_true rfl) (show 8 + (3 + 11) + 20000 ≤ 84000 from Nat.le_of_ble_eq_true rfl) (Nat.le_of_ble_eq_true rfl) hl.1 hH hS hc hs (fun H1 locs1 hH1 hS1 => ?_)
  show W p l e room_1 s m #[Value.ref b] below meth c H1 locs1 _ _ (lw_Z below #[Value.ref b] s) (F0 m 663 ls [.int w])
  have hS := hS1
  refine lv_aload_n hx hb dl_663 rfl (lv_at hl 2 rfl) ?_
  refine lv_aload_n hx hb dl_664 rfl (lv_at hl 0 rfl) ?_
  refine lv_iload_n hx hb dl_665 rfl (lv_at hl 3 rfl) ?_
  refine lv_iconst (v := 1) hx hb dl_666 (by decide) ?_
  refine lv_iadd hx hb dl_667 ?_
  refine va_sld hx hb hX hbl hbA hS (i := (0 + 1)) (by rw [hL]; unfold vp_in; decide) dl_668 ?_
  refine lv_aload_n hx hb dl_669 rfl (lv_at hl 0 rfl) ?_
  refine lv_iload_n hx hb dl_670 rfl (lv_at hl 3 rfl) ?_
  refine lv_iconst (v := 2) hx hb dl_671 (by decide) ?_
  refine lv_iadd hx hb dl_672 ?_
  refine va_sld hx hb hX hbl hbA hS (i := (0 + 2)) (by rw [hL]; unfold vp_in; decide) dl_673 ?_
  refine W.eq (g2 := F0 m 674 ls ((([.int (xs (Int32.toNatClampNeg (0 + 1))), .int (xs (Int32.toNatClampNeg (0 + 2)))] : List Value).map (j_rv g)).reverse ++ .ref (ad 117) :: [.int w])) rfl ?_
  refine j_lawV hC (as := [.int (xs (Int32.toNatClampNeg (0 + 1))), .int (xs (Int32.toNatClampNeg (0 + 2)))]) (a := 117) (rest := [.int w]) r2 dl_674 (j := 286) (Nat.le_of_ble_eq_true rfl) (by decide +kernel) (j_has_in (c := 8) (o := 212) (by decide +kernel)) (Nat.le_of_ble_eq_true rfl) r3 (show 2 = j_np 286 from by decide +kernel) (show (lg_sl _).length ≤ 3 from Nat.le_of_ble_eq_true rfl) (Nat.le_of_ble_eq_true rfl) (show 8 + (3 + 11) + 20000 ≤ 84000 from Nat.le_of_ble_eq_true rfl) (Nat.le_of_ble_eq_true rfl) hl.1 hH1 hS1 hc hs (fun H2 locs2 hH2 hS2 => ?_)
  show W p l e room_1 s m #[Value.ref b] below meth c H2 locs2 _ _ (lw_Z below #[Value.ref b] s) (F0 m 677 ls [.int w, .int w])
  have hS := hS2
  refine lv_icmp_eq (tgt := 1226) hx hb dl_677 (by decide) (fun hqe => ?_) (fun hqe => ?_)
  · skip
    refine lv_iinc (v := 6) (lv' := [(3, .int 6), (0, .ref b), (1, .ref (ad 9)), (2, .ref (ad 117))]) hx hb dl_1226 hl (k := 3) rfl (by decide) (by decide) rfl (fun ls hl => ?_)
    refine lv_goto (tgt := 18) hx hb dl_1229 (by decide) ?_
    exact law_end C0 hC hL hS hc hs (lv_sub hl [0, 1] rfl)
  · exact absurd rfl hqe
set_option maxHeartbeats 4000000 in
theorem law_c14 {p : Program} {l : Launch} {e : Env} {s : State} {m : MethodId} {below : List Frame} {meth : Method} {c : Code} {b L : Nat} {xs : Nat → Int32} {g : Nat → Value} {ad : Nat → Nat} {D : va_G} {cA : Nat → ClassId} {H : Heap} {locs : List Loc} {cells slots : Nat} {ls : Array Slot} (C0 : lw_At p s m meth c b L xs) (hC : j_Cx g ad s.heap.size D cA vwCl j_TW j_zs j_ks "HundredWordsLaw" "law" code 4 p s m #[.ref b] meth c) (hL : L = 6) (hH : j_H g ad s.heap.size D cA vwCl s H jh2) (hS : va_S (j_A s.heap.size) s.heap H locs) (hc : cells ≤ 600000) (hs : slots ≤ 7302250) (hl : lv_has ls 4 [(0, .ref b), (1, .ref (ad 9)), (2, .ref (ad 117)), (3, .int 0)]) : W p l e room_1 s m #[Value.ref b] below meth c H locs cells slots (lw_Z below #[Value.ref b] s) (F0 m 682 ls []) := by
  obtain ⟨hx, hb, hr, hml, hown, hts, hX, hbl, hlocks, hgv⟩ := id C0
  have hbA : ¬ j_A s.heap.size b := Nat.not_le.mpr hbl
  refine lv_aload_n hx hb dl_682 rfl (lv_at hl 1 rfl) ?_
  refine lv_aload_n hx hb dl_683 rfl (lv_at hl 0 rfl) ?_
  refine lv_iload_n hx hb dl_684 rfl (lv_at hl 3 rfl) ?_
  refine lv_iconst (v := 1) hx hb dl_685 (by decide) ?_
  refine lv_iadd hx hb dl_686 ?_
  refine va_sld hx hb hX hbl hbA hS (i := (0 + 1)) (by rw [hL]; unfold vp_in; decide) dl_687 ?_
  obtain ⟨n1, n2, w, h1, h2, r1, r2, r3⟩ := pm_strike ((xs (Int32.toNatClampNeg (0 + 1))))
  refine W.eq (g2 := F0 m 688 ls ((([.int (xs (Int32.toNatClampNeg (0 + 1)))] : List Value).map (j_rv g)).reverse ++ .ref (ad 9) :: [])) rfl ?_
  refine j_lawV hC (as := [.int (xs (Int32.toNatClampNeg (0 + 1)))]) (a := 9) (rest := []) r1 dl_688 (j := 118) (Nat.le_of_ble_eq_true rfl) (by decide +kernel) (j_has_in (c := 4) (o := 177) (by decide +kernel)) (Nat.le_of_ble_eq_true rfl) jh2_x (show 1 = j_np 118 from by decide +kernel) (show (lg_sl _).length ≤ 2 from Nat.le_of_ble_eq_true rfl) (Nat.le_of_ble_eq_true rfl) (show 8 + (2 + 11) + 20000 ≤ 84000 from Nat.le_of_ble_eq_true rfl) (Nat.le_of_ble_eq_true rfl) hl.1 hH hS hc hs (fun H1 locs1 hH1 hS1 => ?_)
  show W p l e room_1 s m #[Value.ref b] below meth c H1 locs1 _ _ (lw_Z below #[Value.ref b] s) (F0 m 691 ls [.int w])
  have hS := hS1
  refine lv_aload_n hx hb dl_691 rfl (lv_at hl 2 rfl) ?_
  refine lv_aload_n hx hb dl_692 rfl (lv_at hl 0 rfl) ?_
  refine lv_iload_n hx hb dl_693 rfl (lv_at hl 3 rfl) ?_
  refine lv_iconst (v := 1) hx hb dl_694 (by decide) ?_
  refine lv_iadd hx hb dl_695 ?_
  refine va_sld hx hb hX hbl hbA hS (i := (0 + 1)) (by rw [hL]; unfold vp_in; decide) dl_696 ?_
  refine W.eq (g2 := F0 m 697 ls ((([.int (xs (Int32.toNatClampNeg (0 + 1)))] : List Value).map (j_rv g)).reverse ++ .ref (ad 117) :: [.int w])) rfl ?_
  refine j_lawV hC (as := [.int (xs (Int32.toNatClampNeg (0 + 1)))]) (a := 117) (rest := [.int w]) r2 dl_697 (j := 291) (Nat.le_of_ble_eq_true rfl) (by decide +kernel) (j_has_in (c := 8) (o := 233) (by decide +kernel)) (Nat.le_of_ble_eq_true rfl) r3 (show 1 = j_np 291 from by decide +kernel) (show (lg_sl _).length ≤ 2 from Nat.le_of_ble_eq_true rfl) (Nat.le_of_ble_eq_true rfl) (show 8 + (2 + 11) + 20000 ≤ 84000 from Nat.le_of_ble_eq_true rfl) (Nat.le_of_ble_eq_true rfl) hl.1 hH1 hS1 hc hs (fun H2 locs2 hH2 hS2 => ?_)
  show W p l e room_1 s m #[Value.ref b] below meth c H2 locs2 _ _ (lw_Z below #[Value.ref b] s) (F0 m 700 ls [.int w, .int w])
  have hS := hS2
  refine lv_icmp_eq (tgt := 1226) hx hb dl_700 (by decide) (fun hqe => ?_) (fun hqe => ?_)
  · skip
    refine lv_iinc (v := 6) (lv' := [(3, .int 6), (0, .ref b), (1, .ref (ad 9)), (2, .ref (ad 117))]) hx hb dl_1226 hl (k := 3) rfl (by decide) (by decide) rfl (fun ls hl => ?_)
    refine lv_goto (tgt := 18) hx hb dl_1229 (by decide) ?_
    exact law_end C0 hC hL hS hc hs (lv_sub hl [0, 1] rfl)
  · exact absurd rfl hqe
set_option maxHeartbeats 4000000 in
theorem law_c15 {p : Program} {l : Launch} {e : Env} {s : State} {m : MethodId} {below : List Frame} {meth : Method} {c : Code} {b L : Nat} {xs : Nat → Int32} {g : Nat → Value} {ad : Nat → Nat} {D : va_G} {cA : Nat → ClassId} {H : Heap} {locs : List Loc} {cells slots : Nat} {ls : Array Slot} (C0 : lw_At p s m meth c b L xs) (hC : j_Cx g ad s.heap.size D cA vwCl j_TW j_zs j_ks "HundredWordsLaw" "law" code 4 p s m #[.ref b] meth c) (hL : L = 6) (hH : j_H g ad s.heap.size D cA vwCl s H jh2) (hS : va_S (j_A s.heap.size) s.heap H locs) (hc : cells ≤ 600000) (hs : slots ≤ 7302250) (hl : lv_has ls 4 [(0, .ref b), (1, .ref (ad 9)), (2, .ref (ad 117)), (3, .int 0)]) : W p l e room_1 s m #[Value.ref b] below meth c H locs cells slots (lw_Z below #[Value.ref b] s) (F0 m 705 ls []) := by
  obtain ⟨hx, hb, hr, hml, hown, hts, hX, hbl, hlocks, hgv⟩ := id C0
  have hbA : ¬ j_A s.heap.size b := Nat.not_le.mpr hbl
  refine lv_aload_n hx hb dl_705 rfl (lv_at hl 1 rfl) ?_
  refine lv_aload_n hx hb dl_706 rfl (lv_at hl 0 rfl) ?_
  refine lv_iload_n hx hb dl_707 rfl (lv_at hl 3 rfl) ?_
  refine lv_iconst (v := 1) hx hb dl_708 (by decide) ?_
  refine lv_iadd hx hb dl_709 ?_
  refine va_sld hx hb hX hbl hbA hS (i := (0 + 1)) (by rw [hL]; unfold vp_in; decide) dl_710 ?_
  refine lv_aload_n hx hb dl_711 rfl (lv_at hl 0 rfl) ?_
  refine lv_iload_n hx hb dl_712 rfl (lv_at hl 3 rfl) ?_
  refine lv_iconst (v := 2) hx hb dl_713 (by decide) ?_
  refine lv_iadd hx hb dl_714 ?_
  refine va_sld hx hb hX hbl hbA hS (i := (0 + 2)) (by rw [hL]; unfold vp_in; decide) dl_715 ?_
  obtain ⟨n1, n2, w, h1, h2, r1, r2, r3⟩ := pm_swap ((xs (Int32.toNatClampNeg (0 + 1)))) ((xs (Int32.toNatClampNeg (0 + 2))))
  refine W.eq (g2 := F0 m 716 ls ((([.int (xs (Int32.toNatClampNeg (0 + 1))), .int (xs (Int32.toNatClampNeg (0 + 2)))] : List Value).map (j_rv g)).reverse ++ .ref (ad 9) :: [])) rfl ?_
  refine j_lawV hC (as := [.int (xs (Int32.toNatClampNeg (0 + 1))), .int (xs (Int32.toNatClampNeg (0 + 2)))]) (a := 9) (rest := []) r1 dl_716 (j := 119) (Nat.le_of_ble_eq_true rfl) (by decide +kernel) (j_has_in (c := 4) (o := 181) (by decide +kernel)) (Nat.le_of_ble_eq_true rfl) jh2_x (show 2 = j_np 119 from by decide +kernel) (show (lg_sl _).length ≤ 3 from Nat.le_of_ble_eq_true rfl) (Nat.le_of_ble_eq_true rfl) (show 8 + (3 + 11) + 20000 ≤ 84000 from Nat.le_of_ble_eq_true rfl) (Nat.le_of_ble_eq_true rfl) hl.1 hH hS hc hs (fun H1 locs1 hH1 hS1 => ?_)
  show W p l e room_1 s m #[Value.ref b] below meth c H1 locs1 _ _ (lw_Z below #[Value.ref b] s) (F0 m 719 ls [.int w])
  have hS := hS1
  refine lv_aload_n hx hb dl_719 rfl (lv_at hl 2 rfl) ?_
  refine lv_aload_n hx hb dl_720 rfl (lv_at hl 0 rfl) ?_
  refine lv_iload_n hx hb dl_721 rfl (lv_at hl 3 rfl) ?_
  refine lv_iconst (v := 1) hx hb dl_722 (by decide) ?_
  refine lv_iadd hx hb dl_723 ?_
  refine va_sld hx hb hX hbl hbA hS (i := (0 + 1)) (by rw [hL]; unfold vp_in; decide) dl_724 ?_
  refine lv_aload_n hx hb dl_725 rfl (lv_at hl 0 rfl) ?_
  refine lv_iload_n hx hb dl_726 rfl (lv_at hl 3 rfl) ?_
  refine lv_iconst (v := 2) hx hb dl_727 (by decide) ?_
  refine lv_iadd hx hb dl_728 ?_
  refine va_sld hx hb hX hbl hbA hS (i := (0 + 2)) (by rw [hL]; unfold vp_in; decide) dl_729 ?_
  refine W.eq (g2 := F0 m 730 ls ((([.int (xs (Int32.toNatClampNeg (0 + 1))), .int (xs (Int32.toNatClampNeg (0 + 2)))] : List Value).map (j_rv g)).reverse ++ .ref (ad 117) :: [.int w])) rfl ?_
  refine j_lawV hC (as := [.int (xs (Int32.toNatClampNeg (0 + 1))), .int (xs (Int32.toNatClampNeg (0 + 2)))]) (a := 117) (rest := [.int w]) r2 dl_730 (j := 292) (Nat.le_of_ble_eq_true rfl) (by decide +kernel) (j_has_in (c := 8) (o := 237) (by decide +kernel)) (Nat.le_of_ble_eq_true rfl) r3 (show 2 = j_np 292 from by decide +kernel) (show (lg_sl _).length ≤ 3 from Nat.le_of_ble_eq_true rfl) (Nat.le_of_ble_eq_true rfl) (show 8 + (3 + 11) + 20000 ≤ 84000 from Nat.le_of_ble_eq_true rfl) (Nat.le_of_ble_eq_true rfl) hl.1 hH1 hS1 hc hs (fun H2 locs2 hH2 hS2 => ?_)
  show W p l e room_1 s m #[Value.ref b] below meth c H2 locs2 _ _ (lw_Z below #[Value.ref b] s) (F0 m 733 ls [.int w, .int w])
  have hS := hS2
  refine lv_icmp_eq (tgt := 1226) hx hb dl_733 (by decide) (fun hqe => ?_) (fun hqe => ?_)
  · skip
    refine lv_iinc (v := 6) (lv' := [(3, .int 6), (0, .ref b), (1, .ref (ad 9)), (2, .ref (ad 117))]) hx hb dl_1226 hl (k := 3) rfl (by decide) (by decide) rfl (fun ls hl => ?_)
    refine lv_goto (tgt := 18) hx hb dl_1229 (by decide) ?_
    exact law_end C0 hC hL hS hc hs (lv_sub hl [0, 1] rfl)
  · exact absurd rfl hqe
set_option maxHeartbeats 4000000 in
theorem law_c16 {p : Program} {l : Launch} {e : Env} {s : State} {m : MethodId} {below : List Frame} {meth : Method} {c : Code} {b L : Nat} {xs : Nat → Int32} {g : Nat → Value} {ad : Nat → Nat} {D : va_G} {cA : Nat → ClassId} {H : Heap} {locs : List Loc} {cells slots : Nat} {ls : Array Slot} (C0 : lw_At p s m meth c b L xs) (hC : j_Cx g ad s.heap.size D cA vwCl j_TW j_zs j_ks "HundredWordsLaw" "law" code 4 p s m #[.ref b] meth c) (hL : L = 6) (hH : j_H g ad s.heap.size D cA vwCl s H jh2) (hS : va_S (j_A s.heap.size) s.heap H locs) (hc : cells ≤ 600000) (hs : slots ≤ 7302250) (hl : lv_has ls 4 [(0, .ref b), (1, .ref (ad 9)), (2, .ref (ad 117)), (3, .int 0)]) : W p l e room_1 s m #[Value.ref b] below meth c H locs cells slots (lw_Z below #[Value.ref b] s) (F0 m 738 ls []) := by
  obtain ⟨hx, hb, hr, hml, hown, hts, hX, hbl, hlocks, hgv⟩ := id C0
  have hbA : ¬ j_A s.heap.size b := Nat.not_le.mpr hbl
  refine lv_aload_n hx hb dl_738 rfl (lv_at hl 1 rfl) ?_
  obtain ⟨n1, n2, w, h1, h2, r1, r2, r3⟩ := pm_undo 
  refine W.eq (g2 := F0 m 739 ls ((([] : List Value).map (j_rv g)).reverse ++ .ref (ad 9) :: [])) rfl ?_
  refine j_lawV hC (as := []) (a := 9) (rest := []) r1 dl_739 (j := 120) (Nat.le_of_ble_eq_true rfl) (by decide +kernel) (j_has_in (c := 4) (o := 185) (by decide +kernel)) (Nat.le_of_ble_eq_true rfl) jh2_x (show 0 = j_np 120 from by decide +kernel) (show (lg_sl _).length ≤ 1 from Nat.le_of_ble_eq_true rfl) (Nat.le_of_ble_eq_true rfl) (show 8 + (1 + 11) + 20000 ≤ 84000 from Nat.le_of_ble_eq_true rfl) (Nat.le_of_ble_eq_true rfl) hl.1 hH hS hc hs (fun H1 locs1 hH1 hS1 => ?_)
  show W p l e room_1 s m #[Value.ref b] below meth c H1 locs1 _ _ (lw_Z below #[Value.ref b] s) (F0 m 742 ls [.int w])
  have hS := hS1
  refine lv_aload_n hx hb dl_742 rfl (lv_at hl 2 rfl) ?_
  refine W.eq (g2 := F0 m 743 ls ((([] : List Value).map (j_rv g)).reverse ++ .ref (ad 117) :: [.int w])) rfl ?_
  refine j_lawV hC (as := []) (a := 117) (rest := [.int w]) r2 dl_743 (j := 285) (Nat.le_of_ble_eq_true rfl) (by decide +kernel) (j_has_in (c := 8) (o := 208) (by decide +kernel)) (Nat.le_of_ble_eq_true rfl) r3 (show 0 = j_np 285 from by decide +kernel) (show (lg_sl _).length ≤ 2 from Nat.le_of_ble_eq_true rfl) (Nat.le_of_ble_eq_true rfl) (show 8 + (2 + 11) + 20000 ≤ 84000 from Nat.le_of_ble_eq_true rfl) (Nat.le_of_ble_eq_true rfl) hl.1 hH1 hS1 hc hs (fun H2 locs2 hH2 hS2 => ?_)
  show W p l e room_1 s m #[Value.ref b] below meth c H2 locs2 _ _ (lw_Z below #[Value.ref b] s) (F0 m 746 ls [.int w, .int w])
  have hS := hS2
  refine lv_icmp_eq (tgt := 1226) hx hb dl_746 (by decide) (fun hqe => ?_) (fun hqe => ?_)
  · skip
    refine lv_iinc (v := 6) (lv' := [(3, .int 6), (0, .ref b), (1, .ref (ad 9)), (2, .ref (ad 117))]) hx hb dl_1226 hl (k := 3) rfl (by decide) (by decide) rfl (fun ls hl => ?_)
    refine lv_goto (tgt := 18) hx hb dl_1229 (by decide) ?_
    exact law_end C0 hC hL hS hc hs (lv_sub hl [0, 1] rfl)
  · exact absurd rfl hqe
set_option maxHeartbeats 4000000 in
theorem law_c17 {p : Program} {l : Launch} {e : Env} {s : State} {m : MethodId} {below : List Frame} {meth : Method} {c : Code} {b L : Nat} {xs : Nat → Int32} {g : Nat → Value} {ad : Nat → Nat} {D : va_G} {cA : Nat → ClassId} {H : Heap} {locs : List Loc} {cells slots : Nat} {ls : Array Slot} (C0 : lw_At p s m meth c b L xs) (hC : j_Cx g ad s.heap.size D cA vwCl j_TW j_zs j_ks "HundredWordsLaw" "law" code 4 p s m #[.ref b] meth c) (hL : L = 6) (hH : j_H g ad s.heap.size D cA vwCl s H jh2) (hS : va_S (j_A s.heap.size) s.heap H locs) (hc : cells ≤ 600000) (hs : slots ≤ 7302250) (hl : lv_has ls 4 [(0, .ref b), (1, .ref (ad 9)), (2, .ref (ad 117)), (3, .int 0)]) : W p l e room_1 s m #[Value.ref b] below meth c H locs cells slots (lw_Z below #[Value.ref b] s) (F0 m 751 ls []) := by
  obtain ⟨hx, hb, hr, hml, hown, hts, hX, hbl, hlocks, hgv⟩ := id C0
  have hbA : ¬ j_A s.heap.size b := Nat.not_le.mpr hbl
  refine lv_aload_n hx hb dl_751 rfl (lv_at hl 1 rfl) ?_
  refine lv_aload_n hx hb dl_752 rfl (lv_at hl 0 rfl) ?_
  refine lv_iload_n hx hb dl_753 rfl (lv_at hl 3 rfl) ?_
  refine lv_iconst (v := 1) hx hb dl_754 (by decide) ?_
  refine lv_iadd hx hb dl_755 ?_
  refine va_sld hx hb hX hbl hbA hS (i := (0 + 1)) (by rw [hL]; unfold vp_in; decide) dl_756 ?_
  obtain ⟨n1, n2, w, h1, h2, r1, r2, r3⟩ := pm_changes ((xs (Int32.toNatClampNeg (0 + 1))))
  refine W.eq (g2 := F0 m 757 ls ((([.int (xs (Int32.toNatClampNeg (0 + 1)))] : List Value).map (j_rv g)).reverse ++ .ref (ad 9) :: [])) rfl ?_
  refine j_lawV hC (as := [.int (xs (Int32.toNatClampNeg (0 + 1)))]) (a := 9) (rest := []) r1 dl_757 (j := 122) (Nat.le_of_ble_eq_true rfl) (by decide +kernel) (j_has_in (c := 4) (o := 193) (by decide +kernel)) (Nat.le_of_ble_eq_true rfl) jh2_x (show 1 = j_np 122 from by decide +kernel) (show (lg_sl _).length ≤ 2 from Nat.le_of_ble_eq_true rfl) (Nat.le_of_ble_eq_true rfl) (show 8 + (2 + 11) + 20000 ≤ 84000 from Nat.le_of_ble_eq_true rfl) (Nat.le_of_ble_eq_true rfl) hl.1 hH hS hc hs (fun H1 locs1 hH1 hS1 => ?_)
  show W p l e room_1 s m #[Value.ref b] below meth c H1 locs1 _ _ (lw_Z below #[Value.ref b] s) (F0 m 760 ls [.int w])
  have hS := hS1
  refine lv_aload_n hx hb dl_760 rfl (lv_at hl 2 rfl) ?_
  refine lv_aload_n hx hb dl_761 rfl (lv_at hl 0 rfl) ?_
  refine lv_iload_n hx hb dl_762 rfl (lv_at hl 3 rfl) ?_
  refine lv_iconst (v := 1) hx hb dl_763 (by decide) ?_
  refine lv_iadd hx hb dl_764 ?_
  refine va_sld hx hb hX hbl hbA hS (i := (0 + 1)) (by rw [hL]; unfold vp_in; decide) dl_765 ?_
  refine W.eq (g2 := F0 m 766 ls ((([.int (xs (Int32.toNatClampNeg (0 + 1)))] : List Value).map (j_rv g)).reverse ++ .ref (ad 117) :: [.int w])) rfl ?_
  refine j_lawV hC (as := [.int (xs (Int32.toNatClampNeg (0 + 1)))]) (a := 117) (rest := [.int w]) r2 dl_766 (j := 293) (Nat.le_of_ble_eq_true rfl) (by decide +kernel) (j_has_in (c := 9) (o := 1) (by decide +kernel)) (Nat.le_of_ble_eq_true rfl) r3 (show 1 = j_np 293 from by decide +kernel) (show (lg_sl _).length ≤ 5 from Nat.le_of_ble_eq_true rfl) (Nat.le_of_ble_eq_true rfl) (show 8 + (5 + 11) + 20000 ≤ 84000 from Nat.le_of_ble_eq_true rfl) (Nat.le_of_ble_eq_true rfl) hl.1 hH1 hS1 hc hs (fun H2 locs2 hH2 hS2 => ?_)
  show W p l e room_1 s m #[Value.ref b] below meth c H2 locs2 _ _ (lw_Z below #[Value.ref b] s) (F0 m 769 ls [.int w, .int w])
  have hS := hS2
  refine lv_icmp_eq (tgt := 1226) hx hb dl_769 (by decide) (fun hqe => ?_) (fun hqe => ?_)
  · skip
    refine lv_iinc (v := 6) (lv' := [(3, .int 6), (0, .ref b), (1, .ref (ad 9)), (2, .ref (ad 117))]) hx hb dl_1226 hl (k := 3) rfl (by decide) (by decide) rfl (fun ls hl => ?_)
    refine lv_goto (tgt := 18) hx hb dl_1229 (by decide) ?_
    exact law_end C0 hC hL hS hc hs (lv_sub hl [0, 1] rfl)
  · exact absurd rfl hqe
set_option maxHeartbeats 4000000 in
theorem law_c18 {p : Program} {l : Launch} {e : Env} {s : State} {m : MethodId} {below : List Frame} {meth : Method} {c : Code} {b L : Nat} {xs : Nat → Int32} {g : Nat → Value} {ad : Nat → Nat} {D : va_G} {cA : Nat → ClassId} {H : Heap} {locs : List Loc} {cells slots : Nat} {ls : Array Slot} (C0 : lw_At p s m meth c b L xs) (hC : j_Cx g ad s.heap.size D cA vwCl j_TW j_zs j_ks "HundredWordsLaw" "law" code 4 p s m #[.ref b] meth c) (hL : L = 6) (hH : j_H g ad s.heap.size D cA vwCl s H jh2) (hS : va_S (j_A s.heap.size) s.heap H locs) (hc : cells ≤ 600000) (hs : slots ≤ 7302250) (hl : lv_has ls 4 [(0, .ref b), (1, .ref (ad 9)), (2, .ref (ad 117)), (3, .int 0)]) : W p l e room_1 s m #[Value.ref b] below meth c H locs cells slots (lw_Z below #[Value.ref b] s) (F0 m 774 ls []) := by
  obtain ⟨hx, hb, hr, hml, hown, hts, hX, hbl, hlocks, hgv⟩ := id C0
  have hbA : ¬ j_A s.heap.size b := Nat.not_le.mpr hbl
  refine lv_aload_n hx hb dl_774 rfl (lv_at hl 1 rfl) ?_
  refine lv_aload_n hx hb dl_775 rfl (lv_at hl 0 rfl) ?_
  refine lv_iload_n hx hb dl_776 rfl (lv_at hl 3 rfl) ?_
  refine lv_iconst (v := 1) hx hb dl_777 (by decide) ?_
  refine lv_iadd hx hb dl_778 ?_
  refine va_sld hx hb hX hbl hbA hS (i := (0 + 1)) (by rw [hL]; unfold vp_in; decide) dl_779 ?_
  refine lv_if_eq (tgt := 787) hx hb dl_780 (by decide) (fun hq0 => ?_) (fun hq0 => ?_)
  · skip
    refine lv_iconst (v := 0) hx hb dl_787 (by decide) ?_
    refine lv_aload_n hx hb dl_788 rfl (lv_at hl 0 rfl) ?_
    refine lv_iload_n hx hb dl_789 rfl (lv_at hl 3 rfl) ?_
    refine lv_iconst (v := 2) hx hb dl_790 (by decide) ?_
    refine lv_iadd hx hb dl_791 ?_
    refine va_sld hx hb hX hbl hbA hS (i := (0 + 2)) (by rw [hL]; unfold vp_in; decide) dl_792 ?_
    obtain ⟨n1, n2, w, h1, h2, r1, r2, r3⟩ := pm_fewest_0 ((xs (Int32.toNatClampNeg (0 + 2))))
    refine W.eq (g2 := F0 m 793 ls ((([.int 0, .int (xs (Int32.toNatClampNeg (0 + 2)))] : List Value).map (j_rv g)).reverse ++ .ref (ad 9) :: [])) rfl ?_
    refine j_lawV hC (as := [.int 0, .int (xs (Int32.toNatClampNeg (0 + 2)))]) (a := 9) (rest := []) r1 dl_793 (j := 124) (Nat.le_of_ble_eq_true rfl) (by decide +kernel) (j_has_in (c := 4) (o := 201) (by decide +kernel)) (Nat.le_of_ble_eq_true rfl) jh2_x (show 2 = j_np 124 from by decide +kernel) (show (lg_sl _).length ≤ 4 from Nat.le_of_ble_eq_true rfl) (Nat.le_of_ble_eq_true rfl) (show 8 + (4 + 11) + 20000 ≤ 84000 from Nat.le_of_ble_eq_true rfl) (Nat.le_of_ble_eq_true rfl) hl.1 hH hS hc hs (fun H1 locs1 hH1 hS1 => ?_)
    show W p l e room_1 s m #[Value.ref b] below meth c H1 locs1 _ _ (lw_Z below #[Value.ref b] s) (F0 m 796 ls [.int w])
    have hS := hS1
    refine lv_aload_n hx hb dl_796 rfl (lv_at hl 2 rfl) ?_
    refine lv_aload_n hx hb dl_797 rfl (lv_at hl 0 rfl) ?_
    refine lv_iload_n hx hb dl_798 rfl (lv_at hl 3 rfl) ?_
    refine lv_iconst (v := 1) hx hb dl_799 (by decide) ?_
    refine lv_iadd hx hb dl_800 ?_
    refine va_sld hx hb hX hbl hbA hS (i := (0 + 1)) (by rw [hL]; unfold vp_in; decide) dl_801 ?_
    refine lv_if_eq (tgt := 809) hx hb dl_802 (by decide) (fun hq1 => ?_) (fun hq1 => ?_)
    · skip
      refine lv_iconst (v := 0) hx hb dl_809 (by decide) ?_
      refine lv_aload_n hx hb dl_810 rfl (lv_at hl 0 rfl) ?_
      refine lv_iload_n hx hb dl_811 rfl (lv_at hl 3 rfl) ?_
      refine lv_iconst (v := 2) hx hb dl_812 (by decide) ?_
      refine lv_iadd hx hb dl_813 ?_
      refine va_sld hx hb hX hbl hbA hS (i := (0 + 2)) (by rw [hL]; unfold vp_in; decide) dl_814 ?_
      refine W.eq (g2 := F0 m 815 ls ((([.int 0, .int (xs (Int32.toNatClampNeg (0 + 2)))] : List Value).map (j_rv g)).reverse ++ .ref (ad 117) :: [.int w])) rfl ?_
      refine j_lawV hC (as := [.int 0, .int (xs (Int32.toNatClampNeg (0 + 2)))]) (a := 117) (rest := [.int w]) r2 dl_815 (j := 294) (Nat.le_of_ble_eq_true rfl) (by decide +kernel) (j_has_in (c := 9) (o := 6) (by decide +kernel)) (Nat.le_of_ble_eq_true rfl) r3 (show 2 = j_np 294 from by decide +kernel) (show (lg_sl _).length ≤ 3 from Nat.le_of_ble_eq_true rfl) (Nat.le_of_ble_eq_true rfl) (show 8 + (3 + 11) + 20000 ≤ 84000 from Nat.le_of_ble_eq_true rfl) (Nat.le_of_ble_eq_true rfl) hl.1 hH1 hS1 hc hs (fun H2 locs2 hH2 hS2 => ?_)
      show W p l e room_1 s m #[Value.ref b] below meth c H2 locs2 _ _ (lw_Z below #[Value.ref b] s) (F0 m 818 ls [.int w, .int w])
      have hS := hS2
      refine lv_icmp_eq (tgt := 1226) hx hb dl_818 (by decide) (fun hqe => ?_) (fun hqe => ?_)
      · skip
        refine lv_iinc (v := 6) (lv' := [(3, .int 6), (0, .ref b), (1, .ref (ad 9)), (2, .ref (ad 117))]) hx hb dl_1226 hl (k := 3) rfl (by decide) (by decide) rfl (fun ls hl => ?_)
        refine lv_goto (tgt := 18) hx hb dl_1229 (by decide) ?_
        exact law_end C0 hC hL hS hc hs (lv_sub hl [0, 1] rfl)
      · exact absurd rfl hqe
    · exact absurd hq0 hq1
  · skip
    refine lv_iconst (v := 1) hx hb dl_783 (by decide) ?_
    refine lv_goto (tgt := 788) hx hb dl_784 (by decide) ?_
    refine lv_aload_n hx hb dl_788 rfl (lv_at hl 0 rfl) ?_
    refine lv_iload_n hx hb dl_789 rfl (lv_at hl 3 rfl) ?_
    refine lv_iconst (v := 2) hx hb dl_790 (by decide) ?_
    refine lv_iadd hx hb dl_791 ?_
    refine va_sld hx hb hX hbl hbA hS (i := (0 + 2)) (by rw [hL]; unfold vp_in; decide) dl_792 ?_
    obtain ⟨n1, n2, w, h1, h2, r1, r2, r3⟩ := pm_fewest_1 ((xs (Int32.toNatClampNeg (0 + 2))))
    refine W.eq (g2 := F0 m 793 ls ((([.int 1, .int (xs (Int32.toNatClampNeg (0 + 2)))] : List Value).map (j_rv g)).reverse ++ .ref (ad 9) :: [])) rfl ?_
    refine j_lawV hC (as := [.int 1, .int (xs (Int32.toNatClampNeg (0 + 2)))]) (a := 9) (rest := []) r1 dl_793 (j := 124) (Nat.le_of_ble_eq_true rfl) (by decide +kernel) (j_has_in (c := 4) (o := 201) (by decide +kernel)) (Nat.le_of_ble_eq_true rfl) jh2_x (show 2 = j_np 124 from by decide +kernel) (show (lg_sl _).length ≤ 4 from Nat.le_of_ble_eq_true rfl) (Nat.le_of_ble_eq_true rfl) (show 8 + (4 + 11) + 20000 ≤ 84000 from Nat.le_of_ble_eq_true rfl) (Nat.le_of_ble_eq_true rfl) hl.1 hH hS hc hs (fun H1 locs1 hH1 hS1 => ?_)
    show W p l e room_1 s m #[Value.ref b] below meth c H1 locs1 _ _ (lw_Z below #[Value.ref b] s) (F0 m 796 ls [.int w])
    have hS := hS1
    refine lv_aload_n hx hb dl_796 rfl (lv_at hl 2 rfl) ?_
    refine lv_aload_n hx hb dl_797 rfl (lv_at hl 0 rfl) ?_
    refine lv_iload_n hx hb dl_798 rfl (lv_at hl 3 rfl) ?_
    refine lv_iconst (v := 1) hx hb dl_799 (by decide) ?_
    refine lv_iadd hx hb dl_800 ?_
    refine va_sld hx hb hX hbl hbA hS (i := (0 + 1)) (by rw [hL]; unfold vp_in; decide) dl_801 ?_
    refine lv_if_eq (tgt := 809) hx hb dl_802 (by decide) (fun hq1 => ?_) (fun hq1 => ?_)
    · exact absurd hq1 hq0
    · skip
      refine lv_iconst (v := 1) hx hb dl_805 (by decide) ?_
      refine lv_goto (tgt := 810) hx hb dl_806 (by decide) ?_
      refine lv_aload_n hx hb dl_810 rfl (lv_at hl 0 rfl) ?_
      refine lv_iload_n hx hb dl_811 rfl (lv_at hl 3 rfl) ?_
      refine lv_iconst (v := 2) hx hb dl_812 (by decide) ?_
      refine lv_iadd hx hb dl_813 ?_
      refine va_sld hx hb hX hbl hbA hS (i := (0 + 2)) (by rw [hL]; unfold vp_in; decide) dl_814 ?_
      refine W.eq (g2 := F0 m 815 ls ((([.int 1, .int (xs (Int32.toNatClampNeg (0 + 2)))] : List Value).map (j_rv g)).reverse ++ .ref (ad 117) :: [.int w])) rfl ?_
      refine j_lawV hC (as := [.int 1, .int (xs (Int32.toNatClampNeg (0 + 2)))]) (a := 117) (rest := [.int w]) r2 dl_815 (j := 294) (Nat.le_of_ble_eq_true rfl) (by decide +kernel) (j_has_in (c := 9) (o := 6) (by decide +kernel)) (Nat.le_of_ble_eq_true rfl) r3 (show 2 = j_np 294 from by decide +kernel) (show (lg_sl _).length ≤ 3 from Nat.le_of_ble_eq_true rfl) (Nat.le_of_ble_eq_true rfl) (show 8 + (3 + 11) + 20000 ≤ 84000 from Nat.le_of_ble_eq_true rfl) (Nat.le_of_ble_eq_true rfl) hl.1 hH1 hS1 hc hs (fun H2 locs2 hH2 hS2 => ?_)
      show W p l e room_1 s m #[Value.ref b] below meth c H2 locs2 _ _ (lw_Z below #[Value.ref b] s) (F0 m 818 ls [.int w, .int w])
      have hS := hS2
      refine lv_icmp_eq (tgt := 1226) hx hb dl_818 (by decide) (fun hqe => ?_) (fun hqe => ?_)
      · skip
        refine lv_iinc (v := 6) (lv' := [(3, .int 6), (0, .ref b), (1, .ref (ad 9)), (2, .ref (ad 117))]) hx hb dl_1226 hl (k := 3) rfl (by decide) (by decide) rfl (fun ls hl => ?_)
        refine lv_goto (tgt := 18) hx hb dl_1229 (by decide) ?_
        exact law_end C0 hC hL hS hc hs (lv_sub hl [0, 1] rfl)
      · exact absurd rfl hqe
set_option maxHeartbeats 4000000 in
theorem law_c19 {p : Program} {l : Launch} {e : Env} {s : State} {m : MethodId} {below : List Frame} {meth : Method} {c : Code} {b L : Nat} {xs : Nat → Int32} {g : Nat → Value} {ad : Nat → Nat} {D : va_G} {cA : Nat → ClassId} {H : Heap} {locs : List Loc} {cells slots : Nat} {ls : Array Slot} (C0 : lw_At p s m meth c b L xs) (hC : j_Cx g ad s.heap.size D cA vwCl j_TW j_zs j_ks "HundredWordsLaw" "law" code 4 p s m #[.ref b] meth c) (hL : L = 6) (hH : j_H g ad s.heap.size D cA vwCl s H jh2) (hS : va_S (j_A s.heap.size) s.heap H locs) (hc : cells ≤ 600000) (hs : slots ≤ 7302250) (hl : lv_has ls 4 [(0, .ref b), (1, .ref (ad 9)), (2, .ref (ad 117)), (3, .int 0)]) : W p l e room_1 s m #[Value.ref b] below meth c H locs cells slots (lw_Z below #[Value.ref b] s) (F0 m 823 ls []) := by
  obtain ⟨hx, hb, hr, hml, hown, hts, hX, hbl, hlocks, hgv⟩ := id C0
  have hbA : ¬ j_A s.heap.size b := Nat.not_le.mpr hbl
  refine lv_aload_n hx hb dl_823 rfl (lv_at hl 1 rfl) ?_
  obtain ⟨n1, n2, w, h1, h2, r1, r2, r3⟩ := pm_shorts 
  refine W.eq (g2 := F0 m 824 ls ((([] : List Value).map (j_rv g)).reverse ++ .ref (ad 9) :: [])) rfl ?_
  refine j_lawV hC (as := []) (a := 9) (rest := []) r1 dl_824 (j := 140) (Nat.le_of_ble_eq_true rfl) (by decide +kernel) (j_has_in (c := 5) (o := 28) (by decide +kernel)) (Nat.le_of_ble_eq_true rfl) jh2_x (show 0 = j_np 140 from by decide +kernel) (show (lg_sl _).length ≤ 1 from Nat.le_of_ble_eq_true rfl) (Nat.le_of_ble_eq_true rfl) (show 8 + (1 + 11) + 20000 ≤ 84000 from Nat.le_of_ble_eq_true rfl) (Nat.le_of_ble_eq_true rfl) hl.1 hH hS hc hs (fun H1 locs1 hH1 hS1 => ?_)
  show W p l e room_1 s m #[Value.ref b] below meth c H1 locs1 _ _ (lw_Z below #[Value.ref b] s) (F0 m 827 ls [.int w])
  have hS := hS1
  refine lv_aload_n hx hb dl_827 rfl (lv_at hl 2 rfl) ?_
  refine W.eq (g2 := F0 m 828 ls ((([] : List Value).map (j_rv g)).reverse ++ .ref (ad 117) :: [.int w])) rfl ?_
  refine j_lawV hC (as := []) (a := 117) (rest := [.int w]) r2 dl_828 (j := 297) (Nat.le_of_ble_eq_true rfl) (by decide +kernel) (j_has_in (c := 9) (o := 19) (by decide +kernel)) (Nat.le_of_ble_eq_true rfl) r3 (show 0 = j_np 297 from by decide +kernel) (show (lg_sl _).length ≤ 1 from Nat.le_of_ble_eq_true rfl) (Nat.le_of_ble_eq_true rfl) (show 8 + (1 + 11) + 20000 ≤ 84000 from Nat.le_of_ble_eq_true rfl) (Nat.le_of_ble_eq_true rfl) hl.1 hH1 hS1 hc hs (fun H2 locs2 hH2 hS2 => ?_)
  show W p l e room_1 s m #[Value.ref b] below meth c H2 locs2 _ _ (lw_Z below #[Value.ref b] s) (F0 m 831 ls [.int w, .int w])
  have hS := hS2
  refine lv_icmp_eq (tgt := 1226) hx hb dl_831 (by decide) (fun hqe => ?_) (fun hqe => ?_)
  · skip
    refine lv_iinc (v := 6) (lv' := [(3, .int 6), (0, .ref b), (1, .ref (ad 9)), (2, .ref (ad 117))]) hx hb dl_1226 hl (k := 3) rfl (by decide) (by decide) rfl (fun ls hl => ?_)
    refine lv_goto (tgt := 18) hx hb dl_1229 (by decide) ?_
    exact law_end C0 hC hL hS hc hs (lv_sub hl [0, 1] rfl)
  · exact absurd rfl hqe
set_option maxHeartbeats 4000000 in
theorem law_c20 {p : Program} {l : Launch} {e : Env} {s : State} {m : MethodId} {below : List Frame} {meth : Method} {c : Code} {b L : Nat} {xs : Nat → Int32} {g : Nat → Value} {ad : Nat → Nat} {D : va_G} {cA : Nat → ClassId} {H : Heap} {locs : List Loc} {cells slots : Nat} {ls : Array Slot} (C0 : lw_At p s m meth c b L xs) (hC : j_Cx g ad s.heap.size D cA vwCl j_TW j_zs j_ks "HundredWordsLaw" "law" code 4 p s m #[.ref b] meth c) (hL : L = 6) (hH : j_H g ad s.heap.size D cA vwCl s H jh2) (hS : va_S (j_A s.heap.size) s.heap H locs) (hc : cells ≤ 600000) (hs : slots ≤ 7302250) (hl : lv_has ls 4 [(0, .ref b), (1, .ref (ad 9)), (2, .ref (ad 117)), (3, .int 0)]) : W p l e room_1 s m #[Value.ref b] below meth c H locs cells slots (lw_Z below #[Value.ref b] s) (F0 m 836 ls []) := by
  obtain ⟨hx, hb, hr, hml, hown, hts, hX, hbl, hlocks, hgv⟩ := id C0
  have hbA : ¬ j_A s.heap.size b := Nat.not_le.mpr hbl
  refine lv_aload_n hx hb dl_836 rfl (lv_at hl 1 rfl) ?_
  refine lv_aload_n hx hb dl_837 rfl (lv_at hl 0 rfl) ?_
  refine lv_iload_n hx hb dl_838 rfl (lv_at hl 3 rfl) ?_
  refine lv_iconst (v := 1) hx hb dl_839 (by decide) ?_
  refine lv_iadd hx hb dl_840 ?_
  refine va_sld hx hb hX hbl hbA hS (i := (0 + 1)) (by rw [hL]; unfold vp_in; decide) dl_841 ?_
  refine lv_aload_n hx hb dl_842 rfl (lv_at hl 0 rfl) ?_
  refine lv_iload_n hx hb dl_843 rfl (lv_at hl 3 rfl) ?_
  refine lv_iconst (v := 2) hx hb dl_844 (by decide) ?_
  refine lv_iadd hx hb dl_845 ?_
  refine va_sld hx hb hX hbl hbA hS (i := (0 + 2)) (by rw [hL]; unfold vp_in; decide) dl_846 ?_
  obtain ⟨n1, n2, w, h1, h2, r1, r2, r3⟩ := pm_brief ((xs (Int32.toNatClampNeg (0 + 1)))) ((xs (Int32.toNatClampNeg (0 + 2))))
  refine W.eq (g2 := F0 m 847 ls ((([.int (xs (Int32.toNatClampNeg (0 + 1))), .int (xs (Int32.toNatClampNeg (0 + 2)))] : List Value).map (j_rv g)).reverse ++ .ref (ad 9) :: [])) rfl ?_
  refine j_lawV hC (as := [.int (xs (Int32.toNatClampNeg (0 + 1))), .int (xs (Int32.toNatClampNeg (0 + 2)))]) (a := 9) (rest := []) r1 dl_847 (j := 142) (Nat.le_of_ble_eq_true rfl) (by decide +kernel) (j_has_in (c := 5) (o := 36) (by decide +kernel)) (Nat.le_of_ble_eq_true rfl) jh2_x (show 2 = j_np 142 from by decide +kernel) (show (lg_sl _).length ≤ 3 from Nat.le_of_ble_eq_true rfl) (Nat.le_of_ble_eq_true rfl) (show 8 + (3 + 11) + 20000 ≤ 84000 from Nat.le_of_ble_eq_true rfl) (Nat.le_of_ble_eq_true rfl) hl.1 hH hS hc hs (fun H1 locs1 hH1 hS1 => ?_)
  show W p l e room_1 s m #[Value.ref b] below meth c H1 locs1 _ _ (lw_Z below #[Value.ref b] s) (F0 m 850 ls [.int w])
  have hS := hS1
  refine lv_aload_n hx hb dl_850 rfl (lv_at hl 2 rfl) ?_
  refine lv_aload_n hx hb dl_851 rfl (lv_at hl 0 rfl) ?_
  refine lv_iload_n hx hb dl_852 rfl (lv_at hl 3 rfl) ?_
  refine lv_iconst (v := 1) hx hb dl_853 (by decide) ?_
  refine lv_iadd hx hb dl_854 ?_
  refine va_sld hx hb hX hbl hbA hS (i := (0 + 1)) (by rw [hL]; unfold vp_in; decide) dl_855 ?_
  refine lv_aload_n hx hb dl_856 rfl (lv_at hl 0 rfl) ?_
  refine lv_iload_n hx hb dl_857 rfl (lv_at hl 3 rfl) ?_
  refine lv_iconst (v := 2) hx hb dl_858 (by decide) ?_
  refine lv_iadd hx hb dl_859 ?_
  refine va_sld hx hb hX hbl hbA hS (i := (0 + 2)) (by rw [hL]; unfold vp_in; decide) dl_860 ?_
  refine W.eq (g2 := F0 m 861 ls ((([.int (xs (Int32.toNatClampNeg (0 + 1))), .int (xs (Int32.toNatClampNeg (0 + 2)))] : List Value).map (j_rv g)).reverse ++ .ref (ad 117) :: [.int w])) rfl ?_
  refine j_lawV hC (as := [.int (xs (Int32.toNatClampNeg (0 + 1))), .int (xs (Int32.toNatClampNeg (0 + 2)))]) (a := 117) (rest := [.int w]) r2 dl_861 (j := 298) (Nat.le_of_ble_eq_true rfl) (by decide +kernel) (j_has_in (c := 9) (o := 23) (by decide +kernel)) (Nat.le_of_ble_eq_true rfl) r3 (show 2 = j_np 298 from by decide +kernel) (show (lg_sl _).length ≤ 3 from Nat.le_of_ble_eq_true rfl) (Nat.le_of_ble_eq_true rfl) (show 8 + (3 + 11) + 20000 ≤ 84000 from Nat.le_of_ble_eq_true rfl) (Nat.le_of_ble_eq_true rfl) hl.1 hH1 hS1 hc hs (fun H2 locs2 hH2 hS2 => ?_)
  show W p l e room_1 s m #[Value.ref b] below meth c H2 locs2 _ _ (lw_Z below #[Value.ref b] s) (F0 m 864 ls [.int w, .int w])
  have hS := hS2
  refine lv_icmp_eq (tgt := 1226) hx hb dl_864 (by decide) (fun hqe => ?_) (fun hqe => ?_)
  · skip
    refine lv_iinc (v := 6) (lv' := [(3, .int 6), (0, .ref b), (1, .ref (ad 9)), (2, .ref (ad 117))]) hx hb dl_1226 hl (k := 3) rfl (by decide) (by decide) rfl (fun ls hl => ?_)
    refine lv_goto (tgt := 18) hx hb dl_1229 (by decide) ?_
    exact law_end C0 hC hL hS hc hs (lv_sub hl [0, 1] rfl)
  · exact absurd rfl hqe
set_option maxHeartbeats 4000000 in
theorem law_c21 {p : Program} {l : Launch} {e : Env} {s : State} {m : MethodId} {below : List Frame} {meth : Method} {c : Code} {b L : Nat} {xs : Nat → Int32} {g : Nat → Value} {ad : Nat → Nat} {D : va_G} {cA : Nat → ClassId} {H : Heap} {locs : List Loc} {cells slots : Nat} {ls : Array Slot} (C0 : lw_At p s m meth c b L xs) (hC : j_Cx g ad s.heap.size D cA vwCl j_TW j_zs j_ks "HundredWordsLaw" "law" code 4 p s m #[.ref b] meth c) (hL : L = 6) (hH : j_H g ad s.heap.size D cA vwCl s H jh2) (hS : va_S (j_A s.heap.size) s.heap H locs) (hc : cells ≤ 600000) (hs : slots ≤ 7302250) (hl : lv_has ls 4 [(0, .ref b), (1, .ref (ad 9)), (2, .ref (ad 117)), (3, .int 0)]) : W p l e room_1 s m #[Value.ref b] below meth c H locs cells slots (lw_Z below #[Value.ref b] s) (F0 m 869 ls []) := by
  obtain ⟨hx, hb, hr, hml, hown, hts, hX, hbl, hlocks, hgv⟩ := id C0
  have hbA : ¬ j_A s.heap.size b := Nat.not_le.mpr hbl
  refine lv_aload_n hx hb dl_869 rfl (lv_at hl 1 rfl) ?_
  obtain ⟨n1, n2, w, h1, h2, r1, r2, r3⟩ := pm_way 
  refine W.eq (g2 := F0 m 870 ls ((([] : List Value).map (j_rv g)).reverse ++ .ref (ad 9) :: [])) rfl ?_
  refine j_lawV hC (as := []) (a := 9) (rest := []) r1 dl_870 (j := 144) (Nat.le_of_ble_eq_true rfl) (by decide +kernel) (j_has_in (c := 5) (o := 46) (by decide +kernel)) (Nat.le_of_ble_eq_true rfl) jh2_x (show 0 = j_np 144 from by decide +kernel) (show (lg_sl _).length ≤ 1 from Nat.le_of_ble_eq_true rfl) (Nat.le_of_ble_eq_true rfl) (show 8 + (1 + 11) + 20000 ≤ 84000 from Nat.le_of_ble_eq_true rfl) (Nat.le_of_ble_eq_true rfl) hl.1 hH hS hc hs (fun H1 locs1 hH1 hS1 => ?_)
  show W p l e room_1 s m #[Value.ref b] below meth c H1 locs1 _ _ (lw_Z below #[Value.ref b] s) (F0 m 873 ls [.int w])
  have hS := hS1
  refine lv_aload_n hx hb dl_873 rfl (lv_at hl 2 rfl) ?_
  refine W.eq (g2 := F0 m 874 ls ((([] : List Value).map (j_rv g)).reverse ++ .ref (ad 117) :: [.int w])) rfl ?_
  refine j_lawV hC (as := []) (a := 117) (rest := [.int w]) r2 dl_874 (j := 301) (Nat.le_of_ble_eq_true rfl) (by decide +kernel) (j_has_in (c := 9) (o := 35) (by decide +kernel)) (Nat.le_of_ble_eq_true rfl) r3 (show 0 = j_np 301 from by decide +kernel) (show (lg_sl _).length ≤ 5 from Nat.le_of_ble_eq_true rfl) (Nat.le_of_ble_eq_true rfl) (show 8 + (5 + 11) + 20000 ≤ 84000 from Nat.le_of_ble_eq_true rfl) (Nat.le_of_ble_eq_true rfl) hl.1 hH1 hS1 hc hs (fun H2 locs2 hH2 hS2 => ?_)
  show W p l e room_1 s m #[Value.ref b] below meth c H2 locs2 _ _ (lw_Z below #[Value.ref b] s) (F0 m 877 ls [.int w, .int w])
  have hS := hS2
  refine lv_icmp_eq (tgt := 1226) hx hb dl_877 (by decide) (fun hqe => ?_) (fun hqe => ?_)
  · skip
    refine lv_iinc (v := 6) (lv' := [(3, .int 6), (0, .ref b), (1, .ref (ad 9)), (2, .ref (ad 117))]) hx hb dl_1226 hl (k := 3) rfl (by decide) (by decide) rfl (fun ls hl => ?_)
    refine lv_goto (tgt := 18) hx hb dl_1229 (by decide) ?_
    exact law_end C0 hC hL hS hc hs (lv_sub hl [0, 1] rfl)
  · exact absurd rfl hqe
set_option maxHeartbeats 4000000 in
theorem law_c22 {p : Program} {l : Launch} {e : Env} {s : State} {m : MethodId} {below : List Frame} {meth : Method} {c : Code} {b L : Nat} {xs : Nat → Int32} {g : Nat → Value} {ad : Nat → Nat} {D : va_G} {cA : Nat → ClassId} {H : Heap} {locs : List Loc} {cells slots : Nat} {ls : Array Slot} (C0 : lw_At p s m meth c b L xs) (hC : j_Cx g ad s.heap.size D cA vwCl j_TW j_zs j_ks "HundredWordsLaw" "law" code 4 p s m #[.ref b] meth c) (hL : L = 6) (hH : j_H g ad s.heap.size D cA vwCl s H jh2) (hS : va_S (j_A s.heap.size) s.heap H locs) (hc : cells ≤ 600000) (hs : slots ≤ 7302250) (hl : lv_has ls 4 [(0, .ref b), (1, .ref (ad 9)), (2, .ref (ad 117)), (3, .int 0)]) : W p l e room_1 s m #[Value.ref b] below meth c H locs cells slots (lw_Z below #[Value.ref b] s) (F0 m 882 ls []) := by
  obtain ⟨hx, hb, hr, hml, hown, hts, hX, hbl, hlocks, hgv⟩ := id C0
  have hbA : ¬ j_A s.heap.size b := Nat.not_le.mpr hbl
  refine lv_aload_n hx hb dl_882 rfl (lv_at hl 1 rfl) ?_
  refine lv_aload_n hx hb dl_883 rfl (lv_at hl 0 rfl) ?_
  refine lv_iload_n hx hb dl_884 rfl (lv_at hl 3 rfl) ?_
  refine lv_iconst (v := 1) hx hb dl_885 (by decide) ?_
  refine lv_iadd hx hb dl_886 ?_
  refine va_sld hx hb hX hbl hbA hS (i := (0 + 1)) (by rw [hL]; unfold vp_in; decide) dl_887 ?_
  refine lv_if_eq (tgt := 895) hx hb dl_888 (by decide) (fun hq0 => ?_) (fun hq0 => ?_)
  · skip
    refine lv_iconst (v := 0) hx hb dl_895 (by decide) ?_
    refine lv_aload_n hx hb dl_896 rfl (lv_at hl 0 rfl) ?_
    refine lv_iload_n hx hb dl_897 rfl (lv_at hl 3 rfl) ?_
    refine lv_iconst (v := 2) hx hb dl_898 (by decide) ?_
    refine lv_iadd hx hb dl_899 ?_
    refine va_sld hx hb hX hbl hbA hS (i := (0 + 2)) (by rw [hL]; unfold vp_in; decide) dl_900 ?_
    obtain ⟨n1, n2, w, h1, h2, r1, r2, r3⟩ := pm_hole_0 ((xs (Int32.toNatClampNeg (0 + 2))))
    refine W.eq (g2 := F0 m 901 ls ((([.int 0, .int (xs (Int32.toNatClampNeg (0 + 2)))] : List Value).map (j_rv g)).reverse ++ .ref (ad 9) :: [])) rfl ?_
    refine j_lawV hC (as := [.int 0, .int (xs (Int32.toNatClampNeg (0 + 2)))]) (a := 9) (rest := []) r1 dl_901 (j := 151) (Nat.le_of_ble_eq_true rfl) (by decide +kernel) (j_has_in (c := 5) (o := 76) (by decide +kernel)) (Nat.le_of_ble_eq_true rfl) jh2_x (show 2 = j_np 151 from by decide +kernel) (show (lg_sl _).length ≤ 5 from Nat.le_of_ble_eq_true rfl) (Nat.le_of_ble_eq_true rfl) (show 8 + (5 + 11) + 20000 ≤ 84000 from Nat.le_of_ble_eq_true rfl) (Nat.le_of_ble_eq_true rfl) hl.1 hH hS hc hs (fun H1 locs1 hH1 hS1 => ?_)
    show W p l e room_1 s m #[Value.ref b] below meth c H1 locs1 _ _ (lw_Z below #[Value.ref b] s) (F0 m 904 ls [.int w])
    have hS := hS1
    refine lv_aload_n hx hb dl_904 rfl (lv_at hl 2 rfl) ?_
    refine lv_aload_n hx hb dl_905 rfl (lv_at hl 0 rfl) ?_
    refine lv_iload_n hx hb dl_906 rfl (lv_at hl 3 rfl) ?_
    refine lv_iconst (v := 1) hx hb dl_907 (by decide) ?_
    refine lv_iadd hx hb dl_908 ?_
    refine va_sld hx hb hX hbl hbA hS (i := (0 + 1)) (by rw [hL]; unfold vp_in; decide) dl_909 ?_
    refine lv_if_eq (tgt := 917) hx hb dl_910 (by decide) (fun hq1 => ?_) (fun hq1 => ?_)
    · skip
      refine lv_iconst (v := 0) hx hb dl_917 (by decide) ?_
      refine lv_aload_n hx hb dl_918 rfl (lv_at hl 0 rfl) ?_
      refine lv_iload_n hx hb dl_919 rfl (lv_at hl 3 rfl) ?_
      refine lv_iconst (v := 2) hx hb dl_920 (by decide) ?_
      refine lv_iadd hx hb dl_921 ?_
      refine va_sld hx hb hX hbl hbA hS (i := (0 + 2)) (by rw [hL]; unfold vp_in; decide) dl_922 ?_
      refine W.eq (g2 := F0 m 923 ls ((([.int 0, .int (xs (Int32.toNatClampNeg (0 + 2)))] : List Value).map (j_rv g)).reverse ++ .ref (ad 117) :: [.int w])) rfl ?_
      refine j_lawV hC (as := [.int 0, .int (xs (Int32.toNatClampNeg (0 + 2)))]) (a := 117) (rest := [.int w]) r2 dl_923 (j := 308) (Nat.le_of_ble_eq_true rfl) (by decide +kernel) (j_has_in (c := 9) (o := 62) (by decide +kernel)) (Nat.le_of_ble_eq_true rfl) r3 (show 2 = j_np 308 from by decide +kernel) (show (lg_sl _).length ≤ 7 from Nat.le_of_ble_eq_true rfl) (Nat.le_of_ble_eq_true rfl) (show 8 + (7 + 11) + 20000 ≤ 84000 from Nat.le_of_ble_eq_true rfl) (Nat.le_of_ble_eq_true rfl) hl.1 hH1 hS1 hc hs (fun H2 locs2 hH2 hS2 => ?_)
      show W p l e room_1 s m #[Value.ref b] below meth c H2 locs2 _ _ (lw_Z below #[Value.ref b] s) (F0 m 926 ls [.int w, .int w])
      have hS := hS2
      refine lv_icmp_eq (tgt := 1226) hx hb dl_926 (by decide) (fun hqe => ?_) (fun hqe => ?_)
      · skip
        refine lv_iinc (v := 6) (lv' := [(3, .int 6), (0, .ref b), (1, .ref (ad 9)), (2, .ref (ad 117))]) hx hb dl_1226 hl (k := 3) rfl (by decide) (by decide) rfl (fun ls hl => ?_)
        refine lv_goto (tgt := 18) hx hb dl_1229 (by decide) ?_
        exact law_end C0 hC hL hS hc hs (lv_sub hl [0, 1] rfl)
      · exact absurd rfl hqe
    · exact absurd hq0 hq1
  · skip
    refine lv_iconst (v := 1) hx hb dl_891 (by decide) ?_
    refine lv_goto (tgt := 896) hx hb dl_892 (by decide) ?_
    refine lv_aload_n hx hb dl_896 rfl (lv_at hl 0 rfl) ?_
    refine lv_iload_n hx hb dl_897 rfl (lv_at hl 3 rfl) ?_
    refine lv_iconst (v := 2) hx hb dl_898 (by decide) ?_
    refine lv_iadd hx hb dl_899 ?_
    refine va_sld hx hb hX hbl hbA hS (i := (0 + 2)) (by rw [hL]; unfold vp_in; decide) dl_900 ?_
    obtain ⟨n1, n2, w, h1, h2, r1, r2, r3⟩ := pm_hole_1 ((xs (Int32.toNatClampNeg (0 + 2))))
    refine W.eq (g2 := F0 m 901 ls ((([.int 1, .int (xs (Int32.toNatClampNeg (0 + 2)))] : List Value).map (j_rv g)).reverse ++ .ref (ad 9) :: [])) rfl ?_
    refine j_lawV hC (as := [.int 1, .int (xs (Int32.toNatClampNeg (0 + 2)))]) (a := 9) (rest := []) r1 dl_901 (j := 151) (Nat.le_of_ble_eq_true rfl) (by decide +kernel) (j_has_in (c := 5) (o := 76) (by decide +kernel)) (Nat.le_of_ble_eq_true rfl) jh2_x (show 2 = j_np 151 from by decide +kernel) (show (lg_sl _).length ≤ 5 from Nat.le_of_ble_eq_true rfl) (Nat.le_of_ble_eq_true rfl) (show 8 + (5 + 11) + 20000 ≤ 84000 from Nat.le_of_ble_eq_true rfl) (Nat.le_of_ble_eq_true rfl) hl.1 hH hS hc hs (fun H1 locs1 hH1 hS1 => ?_)
    show W p l e room_1 s m #[Value.ref b] below meth c H1 locs1 _ _ (lw_Z below #[Value.ref b] s) (F0 m 904 ls [.int w])
    have hS := hS1
    refine lv_aload_n hx hb dl_904 rfl (lv_at hl 2 rfl) ?_
    refine lv_aload_n hx hb dl_905 rfl (lv_at hl 0 rfl) ?_
    refine lv_iload_n hx hb dl_906 rfl (lv_at hl 3 rfl) ?_
    refine lv_iconst (v := 1) hx hb dl_907 (by decide) ?_
    refine lv_iadd hx hb dl_908 ?_
    refine va_sld hx hb hX hbl hbA hS (i := (0 + 1)) (by rw [hL]; unfold vp_in; decide) dl_909 ?_
    refine lv_if_eq (tgt := 917) hx hb dl_910 (by decide) (fun hq1 => ?_) (fun hq1 => ?_)
    · exact absurd hq1 hq0
    · skip
      refine lv_iconst (v := 1) hx hb dl_913 (by decide) ?_
      refine lv_goto (tgt := 918) hx hb dl_914 (by decide) ?_
      refine lv_aload_n hx hb dl_918 rfl (lv_at hl 0 rfl) ?_
      refine lv_iload_n hx hb dl_919 rfl (lv_at hl 3 rfl) ?_
      refine lv_iconst (v := 2) hx hb dl_920 (by decide) ?_
      refine lv_iadd hx hb dl_921 ?_
      refine va_sld hx hb hX hbl hbA hS (i := (0 + 2)) (by rw [hL]; unfold vp_in; decide) dl_922 ?_
      refine W.eq (g2 := F0 m 923 ls ((([.int 1, .int (xs (Int32.toNatClampNeg (0 + 2)))] : List Value).map (j_rv g)).reverse ++ .ref (ad 117) :: [.int w])) rfl ?_
      refine j_lawV hC (as := [.int 1, .int (xs (Int32.toNatClampNeg (0 + 2)))]) (a := 117) (rest := [.int w]) r2 dl_923 (j := 308) (Nat.le_of_ble_eq_true rfl) (by decide +kernel) (j_has_in (c := 9) (o := 62) (by decide +kernel)) (Nat.le_of_ble_eq_true rfl) r3 (show 2 = j_np 308 from by decide +kernel) (show (lg_sl _).length ≤ 7 from Nat.le_of_ble_eq_true rfl) (Nat.le_of_ble_eq_true rfl) (show 8 + (7 + 11) + 20000 ≤ 84000 from Nat.le_of_ble_eq_true rfl) (Nat.le_of_ble_eq_true rfl) hl.1 hH1 hS1 hc hs (fun H2 locs2 hH2 hS2 => ?_)
      show W p l e room_1 s m #[Value.ref b] below meth c H2 locs2 _ _ (lw_Z below #[Value.ref b] s) (F0 m 926 ls [.int w, .int w])
      have hS := hS2
      refine lv_icmp_eq (tgt := 1226) hx hb dl_926 (by decide) (fun hqe => ?_) (fun hqe => ?_)
      · skip
        refine lv_iinc (v := 6) (lv' := [(3, .int 6), (0, .ref b), (1, .ref (ad 9)), (2, .ref (ad 117))]) hx hb dl_1226 hl (k := 3) rfl (by decide) (by decide) rfl (fun ls hl => ?_)
        refine lv_goto (tgt := 18) hx hb dl_1229 (by decide) ?_
        exact law_end C0 hC hL hS hc hs (lv_sub hl [0, 1] rfl)
      · exact absurd rfl hqe
set_option maxHeartbeats 4000000 in
theorem law_c23 {p : Program} {l : Launch} {e : Env} {s : State} {m : MethodId} {below : List Frame} {meth : Method} {c : Code} {b L : Nat} {xs : Nat → Int32} {g : Nat → Value} {ad : Nat → Nat} {D : va_G} {cA : Nat → ClassId} {H : Heap} {locs : List Loc} {cells slots : Nat} {ls : Array Slot} (C0 : lw_At p s m meth c b L xs) (hC : j_Cx g ad s.heap.size D cA vwCl j_TW j_zs j_ks "HundredWordsLaw" "law" code 4 p s m #[.ref b] meth c) (hL : L = 6) (hH : j_H g ad s.heap.size D cA vwCl s H jh2) (hS : va_S (j_A s.heap.size) s.heap H locs) (hc : cells ≤ 600000) (hs : slots ≤ 7302250) (hl : lv_has ls 4 [(0, .ref b), (1, .ref (ad 9)), (2, .ref (ad 117)), (3, .int 0)]) : W p l e room_1 s m #[Value.ref b] below meth c H locs cells slots (lw_Z below #[Value.ref b] s) (F0 m 931 ls []) := by
  obtain ⟨hx, hb, hr, hml, hown, hts, hX, hbl, hlocks, hgv⟩ := id C0
  have hbA : ¬ j_A s.heap.size b := Nat.not_le.mpr hbl
  refine lv_aload_n hx hb dl_931 rfl (lv_at hl 1 rfl) ?_
  obtain ⟨n1, n2, w, h1, h2, r1, r2, r3⟩ := pm_parts 
  refine W.eq (g2 := F0 m 932 ls ((([] : List Value).map (j_rv g)).reverse ++ .ref (ad 9) :: [])) rfl ?_
  refine j_lawV hC (as := []) (a := 9) (rest := []) r1 dl_932 (j := 153) (Nat.le_of_ble_eq_true rfl) (by decide +kernel) (j_has_in (c := 5) (o := 84) (by decide +kernel)) (Nat.le_of_ble_eq_true rfl) jh2_x (show 0 = j_np 153 from by decide +kernel) (show (lg_sl _).length ≤ 1 from Nat.le_of_ble_eq_true rfl) (Nat.le_of_ble_eq_true rfl) (show 8 + (1 + 11) + 20000 ≤ 84000 from Nat.le_of_ble_eq_true rfl) (Nat.le_of_ble_eq_true rfl) hl.1 hH hS hc hs (fun H1 locs1 hH1 hS1 => ?_)
  show W p l e room_1 s m #[Value.ref b] below meth c H1 locs1 _ _ (lw_Z below #[Value.ref b] s) (F0 m 935 ls [.int w])
  have hS := hS1
  refine lv_aload_n hx hb dl_935 rfl (lv_at hl 2 rfl) ?_
  refine W.eq (g2 := F0 m 936 ls ((([] : List Value).map (j_rv g)).reverse ++ .ref (ad 117) :: [.int w])) rfl ?_
  refine j_lawV hC (as := []) (a := 117) (rest := [.int w]) r2 dl_936 (j := 310) (Nat.le_of_ble_eq_true rfl) (by decide +kernel) (j_has_in (c := 9) (o := 69) (by decide +kernel)) (Nat.le_of_ble_eq_true rfl) r3 (show 0 = j_np 310 from by decide +kernel) (show (lg_sl _).length ≤ 1 from Nat.le_of_ble_eq_true rfl) (Nat.le_of_ble_eq_true rfl) (show 8 + (1 + 11) + 20000 ≤ 84000 from Nat.le_of_ble_eq_true rfl) (Nat.le_of_ble_eq_true rfl) hl.1 hH1 hS1 hc hs (fun H2 locs2 hH2 hS2 => ?_)
  show W p l e room_1 s m #[Value.ref b] below meth c H2 locs2 _ _ (lw_Z below #[Value.ref b] s) (F0 m 939 ls [.int w, .int w])
  have hS := hS2
  refine lv_icmp_eq (tgt := 1226) hx hb dl_939 (by decide) (fun hqe => ?_) (fun hqe => ?_)
  · skip
    refine lv_iinc (v := 6) (lv' := [(3, .int 6), (0, .ref b), (1, .ref (ad 9)), (2, .ref (ad 117))]) hx hb dl_1226 hl (k := 3) rfl (by decide) (by decide) rfl (fun ls hl => ?_)
    refine lv_goto (tgt := 18) hx hb dl_1229 (by decide) ?_
    exact law_end C0 hC hL hS hc hs (lv_sub hl [0, 1] rfl)
  · exact absurd rfl hqe
set_option maxHeartbeats 4000000 in
theorem law_c24 {p : Program} {l : Launch} {e : Env} {s : State} {m : MethodId} {below : List Frame} {meth : Method} {c : Code} {b L : Nat} {xs : Nat → Int32} {g : Nat → Value} {ad : Nat → Nat} {D : va_G} {cA : Nat → ClassId} {H : Heap} {locs : List Loc} {cells slots : Nat} {ls : Array Slot} (C0 : lw_At p s m meth c b L xs) (hC : j_Cx g ad s.heap.size D cA vwCl j_TW j_zs j_ks "HundredWordsLaw" "law" code 4 p s m #[.ref b] meth c) (hL : L = 6) (hH : j_H g ad s.heap.size D cA vwCl s H jh2) (hS : va_S (j_A s.heap.size) s.heap H locs) (hc : cells ≤ 600000) (hs : slots ≤ 7302250) (hl : lv_has ls 4 [(0, .ref b), (1, .ref (ad 9)), (2, .ref (ad 117)), (3, .int 0)]) : W p l e room_1 s m #[Value.ref b] below meth c H locs cells slots (lw_Z below #[Value.ref b] s) (F0 m 944 ls []) := by
  obtain ⟨hx, hb, hr, hml, hown, hts, hX, hbl, hlocks, hgv⟩ := id C0
  have hbA : ¬ j_A s.heap.size b := Nat.not_le.mpr hbl
  refine lv_aload_n hx hb dl_944 rfl (lv_at hl 1 rfl) ?_
  refine lv_aload_n hx hb dl_945 rfl (lv_at hl 0 rfl) ?_
  refine lv_iload_n hx hb dl_946 rfl (lv_at hl 3 rfl) ?_
  refine lv_iconst (v := 1) hx hb dl_947 (by decide) ?_
  refine lv_iadd hx hb dl_948 ?_
  refine va_sld hx hb hX hbl hbA hS (i := (0 + 1)) (by rw [hL]; unfold vp_in; decide) dl_949 ?_
  refine lv_if_eq (tgt := 957) hx hb dl_950 (by decide) (fun hq0 => ?_) (fun hq0 => ?_)
  · skip
    refine lv_iconst (v := 0) hx hb dl_957 (by decide) ?_
    refine lv_aload_n hx hb dl_958 rfl (lv_at hl 0 rfl) ?_
    refine lv_iload_n hx hb dl_959 rfl (lv_at hl 3 rfl) ?_
    refine lv_iconst (v := 2) hx hb dl_960 (by decide) ?_
    refine lv_iadd hx hb dl_961 ?_
    refine va_sld hx hb hX hbl hbA hS (i := (0 + 2)) (by rw [hL]; unfold vp_in; decide) dl_962 ?_
    obtain ⟨n1, n2, w, h1, h2, r1, r2, r3⟩ := pm_worth_0 ((xs (Int32.toNatClampNeg (0 + 2))))
    refine W.eq (g2 := F0 m 963 ls ((([.int 0, .int (xs (Int32.toNatClampNeg (0 + 2)))] : List Value).map (j_rv g)).reverse ++ .ref (ad 9) :: [])) rfl ?_
    refine j_lawV hC (as := [.int 0, .int (xs (Int32.toNatClampNeg (0 + 2)))]) (a := 9) (rest := []) r1 dl_963 (j := 154) (Nat.le_of_ble_eq_true rfl) (by decide +kernel) (j_has_in (c := 5) (o := 88) (by decide +kernel)) (Nat.le_of_ble_eq_true rfl) jh2_x (show 2 = j_np 154 from by decide +kernel) (show (lg_sl _).length ≤ 4 from Nat.le_of_ble_eq_true rfl) (Nat.le_of_ble_eq_true rfl) (show 8 + (4 + 11) + 20000 ≤ 84000 from Nat.le_of_ble_eq_true rfl) (Nat.le_of_ble_eq_true rfl) hl.1 hH hS hc hs (fun H1 locs1 hH1 hS1 => ?_)
    show W p l e room_1 s m #[Value.ref b] below meth c H1 locs1 _ _ (lw_Z below #[Value.ref b] s) (F0 m 966 ls [.int w])
    have hS := hS1
    refine lv_aload_n hx hb dl_966 rfl (lv_at hl 2 rfl) ?_
    refine lv_aload_n hx hb dl_967 rfl (lv_at hl 0 rfl) ?_
    refine lv_iload_n hx hb dl_968 rfl (lv_at hl 3 rfl) ?_
    refine lv_iconst (v := 1) hx hb dl_969 (by decide) ?_
    refine lv_iadd hx hb dl_970 ?_
    refine va_sld hx hb hX hbl hbA hS (i := (0 + 1)) (by rw [hL]; unfold vp_in; decide) dl_971 ?_
    refine lv_if_eq (tgt := 979) hx hb dl_972 (by decide) (fun hq1 => ?_) (fun hq1 => ?_)
    · skip
      refine lv_iconst (v := 0) hx hb dl_979 (by decide) ?_
      refine lv_aload_n hx hb dl_980 rfl (lv_at hl 0 rfl) ?_
      refine lv_iload_n hx hb dl_981 rfl (lv_at hl 3 rfl) ?_
      refine lv_iconst (v := 2) hx hb dl_982 (by decide) ?_
      refine lv_iadd hx hb dl_983 ?_
      refine va_sld hx hb hX hbl hbA hS (i := (0 + 2)) (by rw [hL]; unfold vp_in; decide) dl_984 ?_
      refine W.eq (g2 := F0 m 985 ls ((([.int 0, .int (xs (Int32.toNatClampNeg (0 + 2)))] : List Value).map (j_rv g)).reverse ++ .ref (ad 117) :: [.int w])) rfl ?_
      refine j_lawV hC (as := [.int 0, .int (xs (Int32.toNatClampNeg (0 + 2)))]) (a := 117) (rest := [.int w]) r2 dl_985 (j := 311) (Nat.le_of_ble_eq_true rfl) (by decide +kernel) (j_has_in (c := 9) (o := 73) (by decide +kernel)) (Nat.le_of_ble_eq_true rfl) r3 (show 2 = j_np 311 from by decide +kernel) (show (lg_sl _).length ≤ 3 from Nat.le_of_ble_eq_true rfl) (Nat.le_of_ble_eq_true rfl) (show 8 + (3 + 11) + 20000 ≤ 84000 from Nat.le_of_ble_eq_true rfl) (Nat.le_of_ble_eq_true rfl) hl.1 hH1 hS1 hc hs (fun H2 locs2 hH2 hS2 => ?_)
      show W p l e room_1 s m #[Value.ref b] below meth c H2 locs2 _ _ (lw_Z below #[Value.ref b] s) (F0 m 988 ls [.int w, .int w])
      have hS := hS2
      refine lv_icmp_eq (tgt := 1226) hx hb dl_988 (by decide) (fun hqe => ?_) (fun hqe => ?_)
      · skip
        refine lv_iinc (v := 6) (lv' := [(3, .int 6), (0, .ref b), (1, .ref (ad 9)), (2, .ref (ad 117))]) hx hb dl_1226 hl (k := 3) rfl (by decide) (by decide) rfl (fun ls hl => ?_)
        refine lv_goto (tgt := 18) hx hb dl_1229 (by decide) ?_
        exact law_end C0 hC hL hS hc hs (lv_sub hl [0, 1] rfl)
      · exact absurd rfl hqe
    · exact absurd hq0 hq1
  · skip
    refine lv_iconst (v := 1) hx hb dl_953 (by decide) ?_
    refine lv_goto (tgt := 958) hx hb dl_954 (by decide) ?_
    refine lv_aload_n hx hb dl_958 rfl (lv_at hl 0 rfl) ?_
    refine lv_iload_n hx hb dl_959 rfl (lv_at hl 3 rfl) ?_
    refine lv_iconst (v := 2) hx hb dl_960 (by decide) ?_
    refine lv_iadd hx hb dl_961 ?_
    refine va_sld hx hb hX hbl hbA hS (i := (0 + 2)) (by rw [hL]; unfold vp_in; decide) dl_962 ?_
    obtain ⟨n1, n2, w, h1, h2, r1, r2, r3⟩ := pm_worth_1 ((xs (Int32.toNatClampNeg (0 + 2))))
    refine W.eq (g2 := F0 m 963 ls ((([.int 1, .int (xs (Int32.toNatClampNeg (0 + 2)))] : List Value).map (j_rv g)).reverse ++ .ref (ad 9) :: [])) rfl ?_
    refine j_lawV hC (as := [.int 1, .int (xs (Int32.toNatClampNeg (0 + 2)))]) (a := 9) (rest := []) r1 dl_963 (j := 154) (Nat.le_of_ble_eq_true rfl) (by decide +kernel) (j_has_in (c := 5) (o := 88) (by decide +kernel)) (Nat.le_of_ble_eq_true rfl) jh2_x (show 2 = j_np 154 from by decide +kernel) (show (lg_sl _).length ≤ 4 from Nat.le_of_ble_eq_true rfl) (Nat.le_of_ble_eq_true rfl) (show 8 + (4 + 11) + 20000 ≤ 84000 from Nat.le_of_ble_eq_true rfl) (Nat.le_of_ble_eq_true rfl) hl.1 hH hS hc hs (fun H1 locs1 hH1 hS1 => ?_)
    show W p l e room_1 s m #[Value.ref b] below meth c H1 locs1 _ _ (lw_Z below #[Value.ref b] s) (F0 m 966 ls [.int w])
    have hS := hS1
    refine lv_aload_n hx hb dl_966 rfl (lv_at hl 2 rfl) ?_
    refine lv_aload_n hx hb dl_967 rfl (lv_at hl 0 rfl) ?_
    refine lv_iload_n hx hb dl_968 rfl (lv_at hl 3 rfl) ?_
    refine lv_iconst (v := 1) hx hb dl_969 (by decide) ?_
    refine lv_iadd hx hb dl_970 ?_
    refine va_sld hx hb hX hbl hbA hS (i := (0 + 1)) (by rw [hL]; unfold vp_in; decide) dl_971 ?_
    refine lv_if_eq (tgt := 979) hx hb dl_972 (by decide) (fun hq1 => ?_) (fun hq1 => ?_)
    · exact absurd hq1 hq0
    · skip
      refine lv_iconst (v := 1) hx hb dl_975 (by decide) ?_
      refine lv_goto (tgt := 980) hx hb dl_976 (by decide) ?_
      refine lv_aload_n hx hb dl_980 rfl (lv_at hl 0 rfl) ?_
      refine lv_iload_n hx hb dl_981 rfl (lv_at hl 3 rfl) ?_
      refine lv_iconst (v := 2) hx hb dl_982 (by decide) ?_
      refine lv_iadd hx hb dl_983 ?_
      refine va_sld hx hb hX hbl hbA hS (i := (0 + 2)) (by rw [hL]; unfold vp_in; decide) dl_984 ?_
      refine W.eq (g2 := F0 m 985 ls ((([.int 1, .int (xs (Int32.toNatClampNeg (0 + 2)))] : List Value).map (j_rv g)).reverse ++ .ref (ad 117) :: [.int w])) rfl ?_
      refine j_lawV hC (as := [.int 1, .int (xs (Int32.toNatClampNeg (0 + 2)))]) (a := 117) (rest := [.int w]) r2 dl_985 (j := 311) (Nat.le_of_ble_eq_true rfl) (by decide +kernel) (j_has_in (c := 9) (o := 73) (by decide +kernel)) (Nat.le_of_ble_eq_true rfl) r3 (show 2 = j_np 311 from by decide +kernel) (show (lg_sl _).length ≤ 3 from Nat.le_of_ble_eq_true rfl) (Nat.le_of_ble_eq_true rfl) (show 8 + (3 + 11) + 20000 ≤ 84000 from Nat.le_of_ble_eq_true rfl) (Nat.le_of_ble_eq_true rfl) hl.1 hH1 hS1 hc hs (fun H2 locs2 hH2 hS2 => ?_)
      show W p l e room_1 s m #[Value.ref b] below meth c H2 locs2 _ _ (lw_Z below #[Value.ref b] s) (F0 m 988 ls [.int w, .int w])
      have hS := hS2
      refine lv_icmp_eq (tgt := 1226) hx hb dl_988 (by decide) (fun hqe => ?_) (fun hqe => ?_)
      · skip
        refine lv_iinc (v := 6) (lv' := [(3, .int 6), (0, .ref b), (1, .ref (ad 9)), (2, .ref (ad 117))]) hx hb dl_1226 hl (k := 3) rfl (by decide) (by decide) rfl (fun ls hl => ?_)
        refine lv_goto (tgt := 18) hx hb dl_1229 (by decide) ?_
        exact law_end C0 hC hL hS hc hs (lv_sub hl [0, 1] rfl)
      · exact absurd rfl hqe
set_option maxHeartbeats 4000000 in
theorem law_c25 {p : Program} {l : Launch} {e : Env} {s : State} {m : MethodId} {below : List Frame} {meth : Method} {c : Code} {b L : Nat} {xs : Nat → Int32} {g : Nat → Value} {ad : Nat → Nat} {D : va_G} {cA : Nat → ClassId} {H : Heap} {locs : List Loc} {cells slots : Nat} {ls : Array Slot} (C0 : lw_At p s m meth c b L xs) (hC : j_Cx g ad s.heap.size D cA vwCl j_TW j_zs j_ks "HundredWordsLaw" "law" code 4 p s m #[.ref b] meth c) (hL : L = 6) (hH : j_H g ad s.heap.size D cA vwCl s H jh2) (hS : va_S (j_A s.heap.size) s.heap H locs) (hc : cells ≤ 600000) (hs : slots ≤ 7302250) (hl : lv_has ls 4 [(0, .ref b), (1, .ref (ad 9)), (2, .ref (ad 117)), (3, .int 0)]) : W p l e room_1 s m #[Value.ref b] below meth c H locs cells slots (lw_Z below #[Value.ref b] s) (F0 m 993 ls []) := by
  obtain ⟨hx, hb, hr, hml, hown, hts, hX, hbl, hlocks, hgv⟩ := id C0
  have hbA : ¬ j_A s.heap.size b := Nat.not_le.mpr hbl
  refine lv_aload_n hx hb dl_993 rfl (lv_at hl 1 rfl) ?_
  refine lv_aload_n hx hb dl_994 rfl (lv_at hl 0 rfl) ?_
  refine lv_iload_n hx hb dl_995 rfl (lv_at hl 3 rfl) ?_
  refine lv_iconst (v := 1) hx hb dl_996 (by decide) ?_
  refine lv_iadd hx hb dl_997 ?_
  refine va_sld hx hb hX hbl hbA hS (i := (0 + 1)) (by rw [hL]; unfold vp_in; decide) dl_998 ?_
  refine lv_if_eq (tgt := 1006) hx hb dl_999 (by decide) (fun hq0 => ?_) (fun hq0 => ?_)
  · skip
    refine lv_iconst (v := 0) hx hb dl_1006 (by decide) ?_
    obtain ⟨n1, n2, w, h1, h2, r1, r2, r3⟩ := pm_votes_0 
    refine W.eq (g2 := F0 m 1007 ls ((([.int 0] : List Value).map (j_rv g)).reverse ++ .ref (ad 9) :: [])) rfl ?_
    refine j_lawV hC (as := [.int 0]) (a := 9) (rest := []) r1 dl_1007 (j := 157) (Nat.le_of_ble_eq_true rfl) (by decide +kernel) (j_has_in (c := 5) (o := 101) (by decide +kernel)) (Nat.le_of_ble_eq_true rfl) jh2_x (show 1 = j_np 157 from by decide +kernel) (show (lg_sl _).length ≤ 2 from Nat.le_of_ble_eq_true rfl) (Nat.le_of_ble_eq_true rfl) (show 8 + (2 + 11) + 20000 ≤ 84000 from Nat.le_of_ble_eq_true rfl) (Nat.le_of_ble_eq_true rfl) hl.1 hH hS hc hs (fun H1 locs1 hH1 hS1 => ?_)
    show W p l e room_1 s m #[Value.ref b] below meth c H1 locs1 _ _ (lw_Z below #[Value.ref b] s) (F0 m 1010 ls [.int w])
    have hS := hS1
    refine lv_aload_n hx hb dl_1010 rfl (lv_at hl 2 rfl) ?_
    refine lv_aload_n hx hb dl_1011 rfl (lv_at hl 0 rfl) ?_
    refine lv_iload_n hx hb dl_1012 rfl (lv_at hl 3 rfl) ?_
    refine lv_iconst (v := 1) hx hb dl_1013 (by decide) ?_
    refine lv_iadd hx hb dl_1014 ?_
    refine va_sld hx hb hX hbl hbA hS (i := (0 + 1)) (by rw [hL]; unfold vp_in; decide) dl_1015 ?_
    refine lv_if_eq (tgt := 1023) hx hb dl_1016 (by decide) (fun hq1 => ?_) (fun hq1 => ?_)
    · skip
      refine lv_iconst (v := 0) hx hb dl_1023 (by decide) ?_
      refine W.eq (g2 := F0 m 1024 ls ((([.int 0] : List Value).map (j_rv g)).reverse ++ .ref (ad 117) :: [.int w])) rfl ?_
      refine j_lawV hC (as := [.int 0]) (a := 117) (rest := [.int w]) r2 dl_1024 (j := 314) (Nat.le_of_ble_eq_true rfl) (by decide +kernel) (j_has_in (c := 9) (o := 85) (by decide +kernel)) (Nat.le_of_ble_eq_true rfl) r3 (show 1 = j_np 314 from by decide +kernel) (show (lg_sl _).length ≤ 6 from Nat.le_of_ble_eq_true rfl) (Nat.le_of_ble_eq_true rfl) (show 8 + (6 + 11) + 20000 ≤ 84000 from Nat.le_of_ble_eq_true rfl) (Nat.le_of_ble_eq_true rfl) hl.1 hH1 hS1 hc hs (fun H2 locs2 hH2 hS2 => ?_)
      show W p l e room_1 s m #[Value.ref b] below meth c H2 locs2 _ _ (lw_Z below #[Value.ref b] s) (F0 m 1027 ls [.int w, .int w])
      have hS := hS2
      refine lv_icmp_eq (tgt := 1226) hx hb dl_1027 (by decide) (fun hqe => ?_) (fun hqe => ?_)
      · skip
        refine lv_iinc (v := 6) (lv' := [(3, .int 6), (0, .ref b), (1, .ref (ad 9)), (2, .ref (ad 117))]) hx hb dl_1226 hl (k := 3) rfl (by decide) (by decide) rfl (fun ls hl => ?_)
        refine lv_goto (tgt := 18) hx hb dl_1229 (by decide) ?_
        exact law_end C0 hC hL hS hc hs (lv_sub hl [0, 1] rfl)
      · exact absurd rfl hqe
    · exact absurd hq0 hq1
  · skip
    refine lv_iconst (v := 1) hx hb dl_1002 (by decide) ?_
    refine lv_goto (tgt := 1007) hx hb dl_1003 (by decide) ?_
    obtain ⟨n1, n2, w, h1, h2, r1, r2, r3⟩ := pm_votes_1 
    refine W.eq (g2 := F0 m 1007 ls ((([.int 1] : List Value).map (j_rv g)).reverse ++ .ref (ad 9) :: [])) rfl ?_
    refine j_lawV hC (as := [.int 1]) (a := 9) (rest := []) r1 dl_1007 (j := 157) (Nat.le_of_ble_eq_true rfl) (by decide +kernel) (j_has_in (c := 5) (o := 101) (by decide +kernel)) (Nat.le_of_ble_eq_true rfl) jh2_x (show 1 = j_np 157 from by decide +kernel) (show (lg_sl _).length ≤ 2 from Nat.le_of_ble_eq_true rfl) (Nat.le_of_ble_eq_true rfl) (show 8 + (2 + 11) + 20000 ≤ 84000 from Nat.le_of_ble_eq_true rfl) (Nat.le_of_ble_eq_true rfl) hl.1 hH hS hc hs (fun H1 locs1 hH1 hS1 => ?_)
    show W p l e room_1 s m #[Value.ref b] below meth c H1 locs1 _ _ (lw_Z below #[Value.ref b] s) (F0 m 1010 ls [.int w])
    have hS := hS1
    refine lv_aload_n hx hb dl_1010 rfl (lv_at hl 2 rfl) ?_
    refine lv_aload_n hx hb dl_1011 rfl (lv_at hl 0 rfl) ?_
    refine lv_iload_n hx hb dl_1012 rfl (lv_at hl 3 rfl) ?_
    refine lv_iconst (v := 1) hx hb dl_1013 (by decide) ?_
    refine lv_iadd hx hb dl_1014 ?_
    refine va_sld hx hb hX hbl hbA hS (i := (0 + 1)) (by rw [hL]; unfold vp_in; decide) dl_1015 ?_
    refine lv_if_eq (tgt := 1023) hx hb dl_1016 (by decide) (fun hq1 => ?_) (fun hq1 => ?_)
    · exact absurd hq1 hq0
    · skip
      refine lv_iconst (v := 1) hx hb dl_1019 (by decide) ?_
      refine lv_goto (tgt := 1024) hx hb dl_1020 (by decide) ?_
      refine W.eq (g2 := F0 m 1024 ls ((([.int 1] : List Value).map (j_rv g)).reverse ++ .ref (ad 117) :: [.int w])) rfl ?_
      refine j_lawV hC (as := [.int 1]) (a := 117) (rest := [.int w]) r2 dl_1024 (j := 314) (Nat.le_of_ble_eq_true rfl) (by decide +kernel) (j_has_in (c := 9) (o := 85) (by decide +kernel)) (Nat.le_of_ble_eq_true rfl) r3 (show 1 = j_np 314 from by decide +kernel) (show (lg_sl _).length ≤ 6 from Nat.le_of_ble_eq_true rfl) (Nat.le_of_ble_eq_true rfl) (show 8 + (6 + 11) + 20000 ≤ 84000 from Nat.le_of_ble_eq_true rfl) (Nat.le_of_ble_eq_true rfl) hl.1 hH1 hS1 hc hs (fun H2 locs2 hH2 hS2 => ?_)
      show W p l e room_1 s m #[Value.ref b] below meth c H2 locs2 _ _ (lw_Z below #[Value.ref b] s) (F0 m 1027 ls [.int w, .int w])
      have hS := hS2
      refine lv_icmp_eq (tgt := 1226) hx hb dl_1027 (by decide) (fun hqe => ?_) (fun hqe => ?_)
      · skip
        refine lv_iinc (v := 6) (lv' := [(3, .int 6), (0, .ref b), (1, .ref (ad 9)), (2, .ref (ad 117))]) hx hb dl_1226 hl (k := 3) rfl (by decide) (by decide) rfl (fun ls hl => ?_)
        refine lv_goto (tgt := 18) hx hb dl_1229 (by decide) ?_
        exact law_end C0 hC hL hS hc hs (lv_sub hl [0, 1] rfl)
      · exact absurd rfl hqe
set_option maxHeartbeats 4000000 in
theorem law_c26 {p : Program} {l : Launch} {e : Env} {s : State} {m : MethodId} {below : List Frame} {meth : Method} {c : Code} {b L : Nat} {xs : Nat → Int32} {g : Nat → Value} {ad : Nat → Nat} {D : va_G} {cA : Nat → ClassId} {H : Heap} {locs : List Loc} {cells slots : Nat} {ls : Array Slot} (C0 : lw_At p s m meth c b L xs) (hC : j_Cx g ad s.heap.size D cA vwCl j_TW j_zs j_ks "HundredWordsLaw" "law" code 4 p s m #[.ref b] meth c) (hL : L = 6) (hH : j_H g ad s.heap.size D cA vwCl s H jh2) (hS : va_S (j_A s.heap.size) s.heap H locs) (hc : cells ≤ 600000) (hs : slots ≤ 7302250) (hl : lv_has ls 4 [(0, .ref b), (1, .ref (ad 9)), (2, .ref (ad 117)), (3, .int 0)]) : W p l e room_1 s m #[Value.ref b] below meth c H locs cells slots (lw_Z below #[Value.ref b] s) (F0 m 1032 ls []) := by
  obtain ⟨hx, hb, hr, hml, hown, hts, hX, hbl, hlocks, hgv⟩ := id C0
  have hbA : ¬ j_A s.heap.size b := Nat.not_le.mpr hbl
  refine lv_aload_n hx hb dl_1032 rfl (lv_at hl 1 rfl) ?_
  obtain ⟨n1, n2, w, h1, h2, r1, r2, r3⟩ := pm_rest 
  refine W.eq (g2 := F0 m 1033 ls ((([] : List Value).map (j_rv g)).reverse ++ .ref (ad 9) :: [])) rfl ?_
  refine j_lawV hC (as := []) (a := 9) (rest := []) r1 dl_1033 (j := 160) (Nat.le_of_ble_eq_true rfl) (by decide +kernel) (j_has_in (c := 5) (o := 113) (by decide +kernel)) (Nat.le_of_ble_eq_true rfl) jh2_x (show 0 = j_np 160 from by decide +kernel) (show (lg_sl _).length ≤ 1 from Nat.le_of_ble_eq_true rfl) (Nat.le_of_ble_eq_true rfl) (show 8 + (1 + 11) + 20000 ≤ 84000 from Nat.le_of_ble_eq_true rfl) (Nat.le_of_ble_eq_true rfl) hl.1 hH hS hc hs (fun H1 locs1 hH1 hS1 => ?_)
  show W p l e room_1 s m #[Value.ref b] below meth c H1 locs1 _ _ (lw_Z below #[Value.ref b] s) (F0 m 1036 ls [.int w])
  have hS := hS1
  refine lv_aload_n hx hb dl_1036 rfl (lv_at hl 2 rfl) ?_
  refine W.eq (g2 := F0 m 1037 ls ((([] : List Value).map (j_rv g)).reverse ++ .ref (ad 117) :: [.int w])) rfl ?_
  refine j_lawV hC (as := []) (a := 117) (rest := [.int w]) r2 dl_1037 (j := 316) (Nat.le_of_ble_eq_true rfl) (by decide +kernel) (j_has_in (c := 9) (o := 93) (by decide +kernel)) (Nat.le_of_ble_eq_true rfl) r3 (show 0 = j_np 316 from by decide +kernel) (show (lg_sl _).length ≤ 1 from Nat.le_of_ble_eq_true rfl) (Nat.le_of_ble_eq_true rfl) (show 8 + (1 + 11) + 20000 ≤ 84000 from Nat.le_of_ble_eq_true rfl) (Nat.le_of_ble_eq_true rfl) hl.1 hH1 hS1 hc hs (fun H2 locs2 hH2 hS2 => ?_)
  show W p l e room_1 s m #[Value.ref b] below meth c H2 locs2 _ _ (lw_Z below #[Value.ref b] s) (F0 m 1040 ls [.int w, .int w])
  have hS := hS2
  refine lv_icmp_eq (tgt := 1226) hx hb dl_1040 (by decide) (fun hqe => ?_) (fun hqe => ?_)
  · skip
    refine lv_iinc (v := 6) (lv' := [(3, .int 6), (0, .ref b), (1, .ref (ad 9)), (2, .ref (ad 117))]) hx hb dl_1226 hl (k := 3) rfl (by decide) (by decide) rfl (fun ls hl => ?_)
    refine lv_goto (tgt := 18) hx hb dl_1229 (by decide) ?_
    exact law_end C0 hC hL hS hc hs (lv_sub hl [0, 1] rfl)
  · exact absurd rfl hqe
set_option maxHeartbeats 4000000 in
theorem law_c27 {p : Program} {l : Launch} {e : Env} {s : State} {m : MethodId} {below : List Frame} {meth : Method} {c : Code} {b L : Nat} {xs : Nat → Int32} {g : Nat → Value} {ad : Nat → Nat} {D : va_G} {cA : Nat → ClassId} {H : Heap} {locs : List Loc} {cells slots : Nat} {ls : Array Slot} (C0 : lw_At p s m meth c b L xs) (hC : j_Cx g ad s.heap.size D cA vwCl j_TW j_zs j_ks "HundredWordsLaw" "law" code 4 p s m #[.ref b] meth c) (hL : L = 6) (hH : j_H g ad s.heap.size D cA vwCl s H jh2) (hS : va_S (j_A s.heap.size) s.heap H locs) (hc : cells ≤ 600000) (hs : slots ≤ 7302250) (hl : lv_has ls 4 [(0, .ref b), (1, .ref (ad 9)), (2, .ref (ad 117)), (3, .int 0)]) : W p l e room_1 s m #[Value.ref b] below meth c H locs cells slots (lw_Z below #[Value.ref b] s) (F0 m 1045 ls []) := by
  obtain ⟨hx, hb, hr, hml, hown, hts, hX, hbl, hlocks, hgv⟩ := id C0
  have hbA : ¬ j_A s.heap.size b := Nat.not_le.mpr hbl
  refine lv_aload_n hx hb dl_1045 rfl (lv_at hl 1 rfl) ?_
  refine lv_aload_n hx hb dl_1046 rfl (lv_at hl 0 rfl) ?_
  refine lv_iload_n hx hb dl_1047 rfl (lv_at hl 3 rfl) ?_
  refine lv_iconst (v := 1) hx hb dl_1048 (by decide) ?_
  refine lv_iadd hx hb dl_1049 ?_
  refine va_sld hx hb hX hbl hbA hS (i := (0 + 1)) (by rw [hL]; unfold vp_in; decide) dl_1050 ?_
  obtain ⟨n1, n2, w, h1, h2, r1, r2, r3⟩ := pm_spring ((xs (Int32.toNatClampNeg (0 + 1))))
  refine W.eq (g2 := F0 m 1051 ls ((([.int (xs (Int32.toNatClampNeg (0 + 1)))] : List Value).map (j_rv g)).reverse ++ .ref (ad 9) :: [])) rfl ?_
  refine j_lawV hC (as := [.int (xs (Int32.toNatClampNeg (0 + 1)))]) (a := 9) (rest := []) r1 dl_1051 (j := 163) (Nat.le_of_ble_eq_true rfl) (by decide +kernel) (j_has_in (c := 5) (o := 125) (by decide +kernel)) (Nat.le_of_ble_eq_true rfl) jh2_x (show 1 = j_np 163 from by decide +kernel) (show (lg_sl _).length ≤ 3 from Nat.le_of_ble_eq_true rfl) (Nat.le_of_ble_eq_true rfl) (show 8 + (3 + 11) + 20000 ≤ 84000 from Nat.le_of_ble_eq_true rfl) (Nat.le_of_ble_eq_true rfl) hl.1 hH hS hc hs (fun H1 locs1 hH1 hS1 => ?_)
  show W p l e room_1 s m #[Value.ref b] below meth c H1 locs1 _ _ (lw_Z below #[Value.ref b] s) (F0 m 1054 ls [.int w])
  have hS := hS1
  refine lv_aload_n hx hb dl_1054 rfl (lv_at hl 2 rfl) ?_
  refine lv_aload_n hx hb dl_1055 rfl (lv_at hl 0 rfl) ?_
  refine lv_iload_n hx hb dl_1056 rfl (lv_at hl 3 rfl) ?_
  refine lv_iconst (v := 1) hx hb dl_1057 (by decide) ?_
  refine lv_iadd hx hb dl_1058 ?_
  refine va_sld hx hb hX hbl hbA hS (i := (0 + 1)) (by rw [hL]; unfold vp_in; decide) dl_1059 ?_
  refine W.eq (g2 := F0 m 1060 ls ((([.int (xs (Int32.toNatClampNeg (0 + 1)))] : List Value).map (j_rv g)).reverse ++ .ref (ad 117) :: [.int w])) rfl ?_
  refine j_lawV hC (as := [.int (xs (Int32.toNatClampNeg (0 + 1)))]) (a := 117) (rest := [.int w]) r2 dl_1060 (j := 319) (Nat.le_of_ble_eq_true rfl) (by decide +kernel) (j_has_in (c := 9) (o := 105) (by decide +kernel)) (Nat.le_of_ble_eq_true rfl) r3 (show 1 = j_np 319 from by decide +kernel) (show (lg_sl _).length ≤ 3 from Nat.le_of_ble_eq_true rfl) (Nat.le_of_ble_eq_true rfl) (show 8 + (3 + 11) + 20000 ≤ 84000 from Nat.le_of_ble_eq_true rfl) (Nat.le_of_ble_eq_true rfl) hl.1 hH1 hS1 hc hs (fun H2 locs2 hH2 hS2 => ?_)
  show W p l e room_1 s m #[Value.ref b] below meth c H2 locs2 _ _ (lw_Z below #[Value.ref b] s) (F0 m 1063 ls [.int w, .int w])
  have hS := hS2
  refine lv_icmp_eq (tgt := 1226) hx hb dl_1063 (by decide) (fun hqe => ?_) (fun hqe => ?_)
  · skip
    refine lv_iinc (v := 6) (lv' := [(3, .int 6), (0, .ref b), (1, .ref (ad 9)), (2, .ref (ad 117))]) hx hb dl_1226 hl (k := 3) rfl (by decide) (by decide) rfl (fun ls hl => ?_)
    refine lv_goto (tgt := 18) hx hb dl_1229 (by decide) ?_
    exact law_end C0 hC hL hS hc hs (lv_sub hl [0, 1] rfl)
  · exact absurd rfl hqe
set_option maxHeartbeats 4000000 in
theorem law_c28 {p : Program} {l : Launch} {e : Env} {s : State} {m : MethodId} {below : List Frame} {meth : Method} {c : Code} {b L : Nat} {xs : Nat → Int32} {g : Nat → Value} {ad : Nat → Nat} {D : va_G} {cA : Nat → ClassId} {H : Heap} {locs : List Loc} {cells slots : Nat} {ls : Array Slot} (C0 : lw_At p s m meth c b L xs) (hC : j_Cx g ad s.heap.size D cA vwCl j_TW j_zs j_ks "HundredWordsLaw" "law" code 4 p s m #[.ref b] meth c) (hL : L = 6) (hH : j_H g ad s.heap.size D cA vwCl s H jh2) (hS : va_S (j_A s.heap.size) s.heap H locs) (hc : cells ≤ 600000) (hs : slots ≤ 7302250) (hl : lv_has ls 4 [(0, .ref b), (1, .ref (ad 9)), (2, .ref (ad 117)), (3, .int 0)]) : W p l e room_1 s m #[Value.ref b] below meth c H locs cells slots (lw_Z below #[Value.ref b] s) (F0 m 1068 ls []) := by
  obtain ⟨hx, hb, hr, hml, hown, hts, hX, hbl, hlocks, hgv⟩ := id C0
  have hbA : ¬ j_A s.heap.size b := Nat.not_le.mpr hbl
  refine lv_aload_n hx hb dl_1068 rfl (lv_at hl 1 rfl) ?_
  refine lv_aload_n hx hb dl_1069 rfl (lv_at hl 0 rfl) ?_
  refine lv_iload_n hx hb dl_1070 rfl (lv_at hl 3 rfl) ?_
  refine lv_iconst (v := 1) hx hb dl_1071 (by decide) ?_
  refine lv_iadd hx hb dl_1072 ?_
  refine va_sld hx hb hX hbl hbA hS (i := (0 + 1)) (by rw [hL]; unfold vp_in; decide) dl_1073 ?_
  obtain ⟨n1, n2, w, h1, h2, r1, r2, r3⟩ := pm_fitting ((xs (Int32.toNatClampNeg (0 + 1))))
  refine W.eq (g2 := F0 m 1074 ls ((([.int (xs (Int32.toNatClampNeg (0 + 1)))] : List Value).map (j_rv g)).reverse ++ .ref (ad 9) :: [])) rfl ?_
  refine j_lawV hC (as := [.int (xs (Int32.toNatClampNeg (0 + 1)))]) (a := 9) (rest := []) r1 dl_1074 (j := 164) (Nat.le_of_ble_eq_true rfl) (by decide +kernel) (j_has_in (c := 5) (o := 129) (by decide +kernel)) (Nat.le_of_ble_eq_true rfl) jh2_x (show 1 = j_np 164 from by decide +kernel) (show (lg_sl _).length ≤ 2 from Nat.le_of_ble_eq_true rfl) (Nat.le_of_ble_eq_true rfl) (show 8 + (2 + 11) + 20000 ≤ 84000 from Nat.le_of_ble_eq_true rfl) (Nat.le_of_ble_eq_true rfl) hl.1 hH hS hc hs (fun H1 locs1 hH1 hS1 => ?_)
  show W p l e room_1 s m #[Value.ref b] below meth c H1 locs1 _ _ (lw_Z below #[Value.ref b] s) (F0 m 1077 ls [.int w])
  have hS := hS1
  refine lv_aload_n hx hb dl_1077 rfl (lv_at hl 2 rfl) ?_
  refine lv_aload_n hx hb dl_1078 rfl (lv_at hl 0 rfl) ?_
  refine lv_iload_n hx hb dl_1079 rfl (lv_at hl 3 rfl) ?_
  refine lv_iconst (v := 1) hx hb dl_1080 (by decide) ?_
  refine lv_iadd hx hb dl_1081 ?_
  refine va_sld hx hb hX hbl hbA hS (i := (0 + 1)) (by rw [hL]; unfold vp_in; decide) dl_1082 ?_
  refine W.eq (g2 := F0 m 1083 ls ((([.int (xs (Int32.toNatClampNeg (0 + 1)))] : List Value).map (j_rv g)).reverse ++ .ref (ad 117) :: [.int w])) rfl ?_
  refine j_lawV hC (as := [.int (xs (Int32.toNatClampNeg (0 + 1)))]) (a := 117) (rest := [.int w]) r2 dl_1083 (j := 320) (Nat.le_of_ble_eq_true rfl) (by decide +kernel) (j_has_in (c := 9) (o := 110) (by decide +kernel)) (Nat.le_of_ble_eq_true rfl) r3 (show 1 = j_np 320 from by decide +kernel) (show (lg_sl _).length ≤ 8 from Nat.le_of_ble_eq_true rfl) (Nat.le_of_ble_eq_true rfl) (show 8 + (8 + 11) + 20000 ≤ 84000 from Nat.le_of_ble_eq_true rfl) (Nat.le_of_ble_eq_true rfl) hl.1 hH1 hS1 hc hs (fun H2 locs2 hH2 hS2 => ?_)
  show W p l e room_1 s m #[Value.ref b] below meth c H2 locs2 _ _ (lw_Z below #[Value.ref b] s) (F0 m 1086 ls [.int w, .int w])
  have hS := hS2
  refine lv_icmp_eq (tgt := 1226) hx hb dl_1086 (by decide) (fun hqe => ?_) (fun hqe => ?_)
  · skip
    refine lv_iinc (v := 6) (lv' := [(3, .int 6), (0, .ref b), (1, .ref (ad 9)), (2, .ref (ad 117))]) hx hb dl_1226 hl (k := 3) rfl (by decide) (by decide) rfl (fun ls hl => ?_)
    refine lv_goto (tgt := 18) hx hb dl_1229 (by decide) ?_
    exact law_end C0 hC hL hS hc hs (lv_sub hl [0, 1] rfl)
  · exact absurd rfl hqe
set_option maxHeartbeats 4000000 in
theorem law_c29 {p : Program} {l : Launch} {e : Env} {s : State} {m : MethodId} {below : List Frame} {meth : Method} {c : Code} {b L : Nat} {xs : Nat → Int32} {g : Nat → Value} {ad : Nat → Nat} {D : va_G} {cA : Nat → ClassId} {H : Heap} {locs : List Loc} {cells slots : Nat} {ls : Array Slot} (C0 : lw_At p s m meth c b L xs) (hC : j_Cx g ad s.heap.size D cA vwCl j_TW j_zs j_ks "HundredWordsLaw" "law" code 4 p s m #[.ref b] meth c) (hL : L = 6) (hH : j_H g ad s.heap.size D cA vwCl s H jh2) (hS : va_S (j_A s.heap.size) s.heap H locs) (hc : cells ≤ 600000) (hs : slots ≤ 7302250) (hl : lv_has ls 4 [(0, .ref b), (1, .ref (ad 9)), (2, .ref (ad 117)), (3, .int 0)]) : W p l e room_1 s m #[Value.ref b] below meth c H locs cells slots (lw_Z below #[Value.ref b] s) (F0 m 1091 ls []) := by
  obtain ⟨hx, hb, hr, hml, hown, hts, hX, hbl, hlocks, hgv⟩ := id C0
  have hbA : ¬ j_A s.heap.size b := Nat.not_le.mpr hbl
  refine lv_aload_n hx hb dl_1091 rfl (lv_at hl 1 rfl) ?_
  obtain ⟨n1, n2, w, h1, h2, r1, r2, r3⟩ := pm_judged 
  refine W.eq (g2 := F0 m 1092 ls ((([] : List Value).map (j_rv g)).reverse ++ .ref (ad 9) :: [])) rfl ?_
  refine j_lawV hC (as := []) (a := 9) (rest := []) r1 dl_1092 (j := 166) (Nat.le_of_ble_eq_true rfl) (by decide +kernel) (j_has_in (c := 5) (o := 137) (by decide +kernel)) (Nat.le_of_ble_eq_true rfl) jh2_x (show 0 = j_np 166 from by decide +kernel) (show (lg_sl _).length ≤ 1 from Nat.le_of_ble_eq_true rfl) (Nat.le_of_ble_eq_true rfl) (show 8 + (1 + 11) + 20000 ≤ 84000 from Nat.le_of_ble_eq_true rfl) (Nat.le_of_ble_eq_true rfl) hl.1 hH hS hc hs (fun H1 locs1 hH1 hS1 => ?_)
  show W p l e room_1 s m #[Value.ref b] below meth c H1 locs1 _ _ (lw_Z below #[Value.ref b] s) (F0 m 1095 ls [.int w])
  have hS := hS1
  refine lv_aload_n hx hb dl_1095 rfl (lv_at hl 2 rfl) ?_
  refine W.eq (g2 := F0 m 1096 ls ((([] : List Value).map (j_rv g)).reverse ++ .ref (ad 117) :: [.int w])) rfl ?_
  refine j_lawV hC (as := []) (a := 117) (rest := [.int w]) r2 dl_1096 (j := 321) (Nat.le_of_ble_eq_true rfl) (by decide +kernel) (j_has_in (c := 9) (o := 114) (by decide +kernel)) (Nat.le_of_ble_eq_true rfl) r3 (show 0 = j_np 321 from by decide +kernel) (show (lg_sl _).length ≤ 4 from Nat.le_of_ble_eq_true rfl) (Nat.le_of_ble_eq_true rfl) (show 8 + (4 + 11) + 20000 ≤ 84000 from Nat.le_of_ble_eq_true rfl) (Nat.le_of_ble_eq_true rfl) hl.1 hH1 hS1 hc hs (fun H2 locs2 hH2 hS2 => ?_)
  show W p l e room_1 s m #[Value.ref b] below meth c H2 locs2 _ _ (lw_Z below #[Value.ref b] s) (F0 m 1099 ls [.int w, .int w])
  have hS := hS2
  refine lv_icmp_eq (tgt := 1226) hx hb dl_1099 (by decide) (fun hqe => ?_) (fun hqe => ?_)
  · skip
    refine lv_iinc (v := 6) (lv' := [(3, .int 6), (0, .ref b), (1, .ref (ad 9)), (2, .ref (ad 117))]) hx hb dl_1226 hl (k := 3) rfl (by decide) (by decide) rfl (fun ls hl => ?_)
    refine lv_goto (tgt := 18) hx hb dl_1229 (by decide) ?_
    exact law_end C0 hC hL hS hc hs (lv_sub hl [0, 1] rfl)
  · exact absurd rfl hqe
set_option maxHeartbeats 4000000 in
theorem law_c30 {p : Program} {l : Launch} {e : Env} {s : State} {m : MethodId} {below : List Frame} {meth : Method} {c : Code} {b L : Nat} {xs : Nat → Int32} {g : Nat → Value} {ad : Nat → Nat} {D : va_G} {cA : Nat → ClassId} {H : Heap} {locs : List Loc} {cells slots : Nat} {ls : Array Slot} (C0 : lw_At p s m meth c b L xs) (hC : j_Cx g ad s.heap.size D cA vwCl j_TW j_zs j_ks "HundredWordsLaw" "law" code 4 p s m #[.ref b] meth c) (hL : L = 6) (hH : j_H g ad s.heap.size D cA vwCl s H jh2) (hS : va_S (j_A s.heap.size) s.heap H locs) (hc : cells ≤ 600000) (hs : slots ≤ 7302250) (hl : lv_has ls 4 [(0, .ref b), (1, .ref (ad 9)), (2, .ref (ad 117)), (3, .int 0)]) : W p l e room_1 s m #[Value.ref b] below meth c H locs cells slots (lw_Z below #[Value.ref b] s) (F0 m 1104 ls []) := by
  obtain ⟨hx, hb, hr, hml, hown, hts, hX, hbl, hlocks, hgv⟩ := id C0
  have hbA : ¬ j_A s.heap.size b := Nat.not_le.mpr hbl
  refine lv_aload_n hx hb dl_1104 rfl (lv_at hl 1 rfl) ?_
  refine lv_aload_n hx hb dl_1105 rfl (lv_at hl 0 rfl) ?_
  refine lv_iload_n hx hb dl_1106 rfl (lv_at hl 3 rfl) ?_
  refine lv_iconst (v := 1) hx hb dl_1107 (by decide) ?_
  refine lv_iadd hx hb dl_1108 ?_
  refine va_sld hx hb hX hbl hbA hS (i := (0 + 1)) (by rw [hL]; unfold vp_in; decide) dl_1109 ?_
  obtain ⟨n1, n2, w, h1, h2, r1, r2, r3⟩ := pm_seed ((xs (Int32.toNatClampNeg (0 + 1))))
  refine W.eq (g2 := F0 m 1110 ls ((([.int (xs (Int32.toNatClampNeg (0 + 1)))] : List Value).map (j_rv g)).reverse ++ .ref (ad 9) :: [])) rfl ?_
  refine j_lawV hC (as := [.int (xs (Int32.toNatClampNeg (0 + 1)))]) (a := 9) (rest := []) r1 dl_1110 (j := 168) (Nat.le_of_ble_eq_true rfl) (by decide +kernel) (j_has_in (c := 5) (o := 145) (by decide +kernel)) (Nat.le_of_ble_eq_true rfl) jh2_x (show 1 = j_np 168 from by decide +kernel) (show (lg_sl _).length ≤ 2 from Nat.le_of_ble_eq_true rfl) (Nat.le_of_ble_eq_true rfl) (show 8 + (2 + 11) + 20000 ≤ 84000 from Nat.le_of_ble_eq_true rfl) (Nat.le_of_ble_eq_true rfl) hl.1 hH hS hc hs (fun H1 locs1 hH1 hS1 => ?_)
  show W p l e room_1 s m #[Value.ref b] below meth c H1 locs1 _ _ (lw_Z below #[Value.ref b] s) (F0 m 1113 ls [.int w])
  have hS := hS1
  refine lv_aload_n hx hb dl_1113 rfl (lv_at hl 2 rfl) ?_
  refine lv_aload_n hx hb dl_1114 rfl (lv_at hl 0 rfl) ?_
  refine lv_iload_n hx hb dl_1115 rfl (lv_at hl 3 rfl) ?_
  refine lv_iconst (v := 1) hx hb dl_1116 (by decide) ?_
  refine lv_iadd hx hb dl_1117 ?_
  refine va_sld hx hb hX hbl hbA hS (i := (0 + 1)) (by rw [hL]; unfold vp_in; decide) dl_1118 ?_
  refine W.eq (g2 := F0 m 1119 ls ((([.int (xs (Int32.toNatClampNeg (0 + 1)))] : List Value).map (j_rv g)).reverse ++ .ref (ad 117) :: [.int w])) rfl ?_
  refine j_lawV hC (as := [.int (xs (Int32.toNatClampNeg (0 + 1)))]) (a := 117) (rest := [.int w]) r2 dl_1119 (j := 322) (Nat.le_of_ble_eq_true rfl) (by decide +kernel) (j_has_in (c := 9) (o := 118) (by decide +kernel)) (Nat.le_of_ble_eq_true rfl) r3 (show 1 = j_np 322 from by decide +kernel) (show (lg_sl _).length ≤ 2 from Nat.le_of_ble_eq_true rfl) (Nat.le_of_ble_eq_true rfl) (show 8 + (2 + 11) + 20000 ≤ 84000 from Nat.le_of_ble_eq_true rfl) (Nat.le_of_ble_eq_true rfl) hl.1 hH1 hS1 hc hs (fun H2 locs2 hH2 hS2 => ?_)
  show W p l e room_1 s m #[Value.ref b] below meth c H2 locs2 _ _ (lw_Z below #[Value.ref b] s) (F0 m 1122 ls [.int w, .int w])
  have hS := hS2
  refine lv_icmp_eq (tgt := 1226) hx hb dl_1122 (by decide) (fun hqe => ?_) (fun hqe => ?_)
  · skip
    refine lv_iinc (v := 6) (lv' := [(3, .int 6), (0, .ref b), (1, .ref (ad 9)), (2, .ref (ad 117))]) hx hb dl_1226 hl (k := 3) rfl (by decide) (by decide) rfl (fun ls hl => ?_)
    refine lv_goto (tgt := 18) hx hb dl_1229 (by decide) ?_
    exact law_end C0 hC hL hS hc hs (lv_sub hl [0, 1] rfl)
  · exact absurd rfl hqe
set_option maxHeartbeats 4000000 in
theorem law_c31 {p : Program} {l : Launch} {e : Env} {s : State} {m : MethodId} {below : List Frame} {meth : Method} {c : Code} {b L : Nat} {xs : Nat → Int32} {g : Nat → Value} {ad : Nat → Nat} {D : va_G} {cA : Nat → ClassId} {H : Heap} {locs : List Loc} {cells slots : Nat} {ls : Array Slot} (C0 : lw_At p s m meth c b L xs) (hC : j_Cx g ad s.heap.size D cA vwCl j_TW j_zs j_ks "HundredWordsLaw" "law" code 4 p s m #[.ref b] meth c) (hL : L = 6) (hH : j_H g ad s.heap.size D cA vwCl s H jh2) (hS : va_S (j_A s.heap.size) s.heap H locs) (hc : cells ≤ 600000) (hs : slots ≤ 7302250) (hl : lv_has ls 4 [(0, .ref b), (1, .ref (ad 9)), (2, .ref (ad 117)), (3, .int 0)]) : W p l e room_1 s m #[Value.ref b] below meth c H locs cells slots (lw_Z below #[Value.ref b] s) (F0 m 1127 ls []) := by
  obtain ⟨hx, hb, hr, hml, hown, hts, hX, hbl, hlocks, hgv⟩ := id C0
  have hbA : ¬ j_A s.heap.size b := Nat.not_le.mpr hbl
  refine lv_aload_n hx hb dl_1127 rfl (lv_at hl 1 rfl) ?_
  obtain ⟨n1, n2, w, h1, h2, r1, r2, r3⟩ := pm_stroke 
  refine W.eq (g2 := F0 m 1128 ls ((([] : List Value).map (j_rv g)).reverse ++ .ref (ad 9) :: [])) rfl ?_
  refine j_lawV hC (as := []) (a := 9) (rest := []) r1 dl_1128 (j := 169) (Nat.le_of_ble_eq_true rfl) (by decide +kernel) (j_has_in (c := 5) (o := 149) (by decide +kernel)) (Nat.le_of_ble_eq_true rfl) jh2_x (show 0 = j_np 169 from by decide +kernel) (show (lg_sl _).length ≤ 2 from Nat.le_of_ble_eq_true rfl) (Nat.le_of_ble_eq_true rfl) (show 8 + (2 + 11) + 20000 ≤ 84000 from Nat.le_of_ble_eq_true rfl) (Nat.le_of_ble_eq_true rfl) hl.1 hH hS hc hs (fun H1 locs1 hH1 hS1 => ?_)
  show W p l e room_1 s m #[Value.ref b] below meth c H1 locs1 _ _ (lw_Z below #[Value.ref b] s) (F0 m 1131 ls [.int w])
  have hS := hS1
  refine lv_aload_n hx hb dl_1131 rfl (lv_at hl 2 rfl) ?_
  refine W.eq (g2 := F0 m 1132 ls ((([] : List Value).map (j_rv g)).reverse ++ .ref (ad 117) :: [.int w])) rfl ?_
  refine j_lawV hC (as := []) (a := 117) (rest := [.int w]) r2 dl_1132 (j := 323) (Nat.le_of_ble_eq_true rfl) (by decide +kernel) (j_has_in (c := 9) (o := 122) (by decide +kernel)) (Nat.le_of_ble_eq_true rfl) r3 (show 0 = j_np 323 from by decide +kernel) (show (lg_sl _).length ≤ 2 from Nat.le_of_ble_eq_true rfl) (Nat.le_of_ble_eq_true rfl) (show 8 + (2 + 11) + 20000 ≤ 84000 from Nat.le_of_ble_eq_true rfl) (Nat.le_of_ble_eq_true rfl) hl.1 hH1 hS1 hc hs (fun H2 locs2 hH2 hS2 => ?_)
  show W p l e room_1 s m #[Value.ref b] below meth c H2 locs2 _ _ (lw_Z below #[Value.ref b] s) (F0 m 1135 ls [.int w, .int w])
  have hS := hS2
  refine lv_icmp_eq (tgt := 1226) hx hb dl_1135 (by decide) (fun hqe => ?_) (fun hqe => ?_)
  · skip
    refine lv_iinc (v := 6) (lv' := [(3, .int 6), (0, .ref b), (1, .ref (ad 9)), (2, .ref (ad 117))]) hx hb dl_1226 hl (k := 3) rfl (by decide) (by decide) rfl (fun ls hl => ?_)
    refine lv_goto (tgt := 18) hx hb dl_1229 (by decide) ?_
    exact law_end C0 hC hL hS hc hs (lv_sub hl [0, 1] rfl)
  · exact absurd rfl hqe
set_option maxHeartbeats 4000000 in
theorem law_c32 {p : Program} {l : Launch} {e : Env} {s : State} {m : MethodId} {below : List Frame} {meth : Method} {c : Code} {b L : Nat} {xs : Nat → Int32} {g : Nat → Value} {ad : Nat → Nat} {D : va_G} {cA : Nat → ClassId} {H : Heap} {locs : List Loc} {cells slots : Nat} {ls : Array Slot} (C0 : lw_At p s m meth c b L xs) (hC : j_Cx g ad s.heap.size D cA vwCl j_TW j_zs j_ks "HundredWordsLaw" "law" code 4 p s m #[.ref b] meth c) (hL : L = 6) (hH : j_H g ad s.heap.size D cA vwCl s H jh2) (hS : va_S (j_A s.heap.size) s.heap H locs) (hc : cells ≤ 600000) (hs : slots ≤ 7302250) (hl : lv_has ls 4 [(0, .ref b), (1, .ref (ad 9)), (2, .ref (ad 117)), (3, .int 0)]) : W p l e room_1 s m #[Value.ref b] below meth c H locs cells slots (lw_Z below #[Value.ref b] s) (F0 m 1140 ls []) := by
  obtain ⟨hx, hb, hr, hml, hown, hts, hX, hbl, hlocks, hgv⟩ := id C0
  have hbA : ¬ j_A s.heap.size b := Nat.not_le.mpr hbl
  refine lv_aload_n hx hb dl_1140 rfl (lv_at hl 1 rfl) ?_
  obtain ⟨n1, n2, w, h1, h2, r1, r2, r3⟩ := pm_ask 
  refine W.eq (g2 := F0 m 1141 ls ((([] : List Value).map (j_rv g)).reverse ++ .ref (ad 9) :: [])) rfl ?_
  refine j_lawV hC (as := []) (a := 9) (rest := []) r1 dl_1141 (j := 171) (Nat.le_of_ble_eq_true rfl) (by decide +kernel) (j_has_in (c := 5) (o := 161) (by decide +kernel)) (Nat.le_of_ble_eq_true rfl) jh2_x (show 0 = j_np 171 from by decide +kernel) (show (lg_sl _).length ≤ 2 from Nat.le_of_ble_eq_true rfl) (Nat.le_of_ble_eq_true rfl) (show 8 + (2 + 11) + 20000 ≤ 84000 from Nat.le_of_ble_eq_true rfl) (Nat.le_of_ble_eq_true rfl) hl.1 hH hS hc hs (fun H1 locs1 hH1 hS1 => ?_)
  show W p l e room_1 s m #[Value.ref b] below meth c H1 locs1 _ _ (lw_Z below #[Value.ref b] s) (F0 m 1144 ls [.long w])
  have hS := hS1
  refine lv_aload_n hx hb dl_1144 rfl (lv_at hl 2 rfl) ?_
  refine W.eq (g2 := F0 m 1145 ls ((([] : List Value).map (j_rv g)).reverse ++ .ref (ad 117) :: [.long w])) rfl ?_
  refine j_lawV hC (as := []) (a := 117) (rest := [.long w]) r2 dl_1145 (j := 324) (Nat.le_of_ble_eq_true rfl) (by decide +kernel) (j_has_in (c := 9) (o := 130) (by decide +kernel)) (Nat.le_of_ble_eq_true rfl) r3 (show 0 = j_np 324 from by decide +kernel) (show (lg_sl _).length ≤ 3 from Nat.le_of_ble_eq_true rfl) (Nat.le_of_ble_eq_true rfl) (show 8 + (3 + 11) + 20000 ≤ 84000 from Nat.le_of_ble_eq_true rfl) (Nat.le_of_ble_eq_true rfl) hl.1 hH1 hS1 hc hs (fun H2 locs2 hH2 hS2 => ?_)
  show W p l e room_1 s m #[Value.ref b] below meth c H2 locs2 _ _ (lw_Z below #[Value.ref b] s) (F0 m 1148 ls [.long w, .long w])
  have hS := hS2
  refine W.lcmp hx hb dl_1148 ?_
  refine lv_if_eq (tgt := 1226) hx hb dl_1149 (by decide) (fun hqe => ?_) (fun hqe => ?_)
  · skip
    refine lv_iinc (v := 6) (lv' := [(3, .int 6), (0, .ref b), (1, .ref (ad 9)), (2, .ref (ad 117))]) hx hb dl_1226 hl (k := 3) rfl (by decide) (by decide) rfl (fun ls hl => ?_)
    refine lv_goto (tgt := 18) hx hb dl_1229 (by decide) ?_
    exact law_end C0 hC hL hS hc hs (lv_sub hl [0, 1] rfl)
  · exact absurd (by simp [lg_cmp]) hqe
set_option maxHeartbeats 4000000 in
theorem law_c33 {p : Program} {l : Launch} {e : Env} {s : State} {m : MethodId} {below : List Frame} {meth : Method} {c : Code} {b L : Nat} {xs : Nat → Int32} {g : Nat → Value} {ad : Nat → Nat} {D : va_G} {cA : Nat → ClassId} {H : Heap} {locs : List Loc} {cells slots : Nat} {ls : Array Slot} (C0 : lw_At p s m meth c b L xs) (hC : j_Cx g ad s.heap.size D cA vwCl j_TW j_zs j_ks "HundredWordsLaw" "law" code 4 p s m #[.ref b] meth c) (hL : L = 6) (hH : j_H g ad s.heap.size D cA vwCl s H jh2) (hS : va_S (j_A s.heap.size) s.heap H locs) (hc : cells ≤ 600000) (hs : slots ≤ 7302250) (hl : lv_has ls 4 [(0, .ref b), (1, .ref (ad 9)), (2, .ref (ad 117)), (3, .int 0)]) : W p l e room_1 s m #[Value.ref b] below meth c H locs cells slots (lw_Z below #[Value.ref b] s) (F0 m 1154 ls []) := by
  obtain ⟨hx, hb, hr, hml, hown, hts, hX, hbl, hlocks, hgv⟩ := id C0
  have hbA : ¬ j_A s.heap.size b := Nat.not_le.mpr hbl
  refine lv_aload_n hx hb dl_1154 rfl (lv_at hl 1 rfl) ?_
  obtain ⟨n1, n2, w, h1, h2, r1, r2, r3⟩ := pm_image 
  refine W.eq (g2 := F0 m 1155 ls ((([] : List Value).map (j_rv g)).reverse ++ .ref (ad 9) :: [])) rfl ?_
  refine j_lawV hC (as := []) (a := 9) (rest := []) r1 dl_1155 (j := 200) (Nat.le_of_ble_eq_true rfl) (by decide +kernel) (j_has_in (c := 6) (o := 47) (by decide +kernel)) (Nat.le_of_ble_eq_true rfl) jh2_x (show 0 = j_np 200 from by decide +kernel) (show (lg_sl _).length ≤ 1 from Nat.le_of_ble_eq_true rfl) (Nat.le_of_ble_eq_true rfl) (show 8 + (1 + 11) + 20000 ≤ 84000 from Nat.le_of_ble_eq_true rfl) (Nat.le_of_ble_eq_true rfl) hl.1 hH hS hc hs (fun H1 locs1 hH1 hS1 => ?_)
  show W p l e room_1 s m #[Value.ref b] below meth c H1 locs1 _ _ (lw_Z below #[Value.ref b] s) (F0 m 1158 ls [.int w])
  have hS := hS1
  refine lv_aload_n hx hb dl_1158 rfl (lv_at hl 2 rfl) ?_
  refine W.eq (g2 := F0 m 1159 ls ((([] : List Value).map (j_rv g)).reverse ++ .ref (ad 117) :: [.int w])) rfl ?_
  refine j_lawV hC (as := []) (a := 117) (rest := [.int w]) r2 dl_1159 (j := 354) (Nat.le_of_ble_eq_true rfl) (by decide +kernel) (j_has_in (c := 10) (o := 10) (by decide +kernel)) (Nat.le_of_ble_eq_true rfl) r3 (show 0 = j_np 354 from by decide +kernel) (show (lg_sl _).length ≤ 3 from Nat.le_of_ble_eq_true rfl) (Nat.le_of_ble_eq_true rfl) (show 8 + (3 + 11) + 20000 ≤ 84000 from Nat.le_of_ble_eq_true rfl) (Nat.le_of_ble_eq_true rfl) hl.1 hH1 hS1 hc hs (fun H2 locs2 hH2 hS2 => ?_)
  show W p l e room_1 s m #[Value.ref b] below meth c H2 locs2 _ _ (lw_Z below #[Value.ref b] s) (F0 m 1162 ls [.int w, .int w])
  have hS := hS2
  refine lv_icmp_eq (tgt := 1226) hx hb dl_1162 (by decide) (fun hqe => ?_) (fun hqe => ?_)
  · skip
    refine lv_iinc (v := 6) (lv' := [(3, .int 6), (0, .ref b), (1, .ref (ad 9)), (2, .ref (ad 117))]) hx hb dl_1226 hl (k := 3) rfl (by decide) (by decide) rfl (fun ls hl => ?_)
    refine lv_goto (tgt := 18) hx hb dl_1229 (by decide) ?_
    exact law_end C0 hC hL hS hc hs (lv_sub hl [0, 1] rfl)
  · exact absurd rfl hqe
set_option maxHeartbeats 4000000 in
theorem law_c34 {p : Program} {l : Launch} {e : Env} {s : State} {m : MethodId} {below : List Frame} {meth : Method} {c : Code} {b L : Nat} {xs : Nat → Int32} {g : Nat → Value} {ad : Nat → Nat} {D : va_G} {cA : Nat → ClassId} {H : Heap} {locs : List Loc} {cells slots : Nat} {ls : Array Slot} (C0 : lw_At p s m meth c b L xs) (hC : j_Cx g ad s.heap.size D cA vwCl j_TW j_zs j_ks "HundredWordsLaw" "law" code 4 p s m #[.ref b] meth c) (hL : L = 6) (hH : j_H g ad s.heap.size D cA vwCl s H jh2) (hS : va_S (j_A s.heap.size) s.heap H locs) (hc : cells ≤ 600000) (hs : slots ≤ 7302250) (hl : lv_has ls 4 [(0, .ref b), (1, .ref (ad 9)), (2, .ref (ad 117)), (3, .int 0)]) : W p l e room_1 s m #[Value.ref b] below meth c H locs cells slots (lw_Z below #[Value.ref b] s) (F0 m 1167 ls []) := by
  obtain ⟨hx, hb, hr, hml, hown, hts, hX, hbl, hlocks, hgv⟩ := id C0
  have hbA : ¬ j_A s.heap.size b := Nat.not_le.mpr hbl
  refine lv_aload_n hx hb dl_1167 rfl (lv_at hl 1 rfl) ?_
  refine lv_aload_n hx hb dl_1168 rfl (lv_at hl 0 rfl) ?_
  refine lv_iload_n hx hb dl_1169 rfl (lv_at hl 3 rfl) ?_
  refine lv_iconst (v := 1) hx hb dl_1170 (by decide) ?_
  refine lv_iadd hx hb dl_1171 ?_
  refine va_sld hx hb hX hbl hbA hS (i := (0 + 1)) (by rw [hL]; unfold vp_in; decide) dl_1172 ?_
  obtain ⟨n1, n2, w, h1, h2, r1, r2, r3⟩ := pm_octet ((xs (Int32.toNatClampNeg (0 + 1))))
  refine W.eq (g2 := F0 m 1173 ls ((([.int (xs (Int32.toNatClampNeg (0 + 1)))] : List Value).map (j_rv g)).reverse ++ .ref (ad 9) :: [])) rfl ?_
  refine j_lawV hC (as := [.int (xs (Int32.toNatClampNeg (0 + 1)))]) (a := 9) (rest := []) r1 dl_1173 (j := 205) (Nat.le_of_ble_eq_true rfl) (by decide +kernel) (j_has_in (c := 6) (o := 66) (by decide +kernel)) (Nat.le_of_ble_eq_true rfl) jh2_x (show 1 = j_np 205 from by decide +kernel) (show (lg_sl _).length ≤ 2 from Nat.le_of_ble_eq_true rfl) (Nat.le_of_ble_eq_true rfl) (show 8 + (2 + 11) + 20000 ≤ 84000 from Nat.le_of_ble_eq_true rfl) (Nat.le_of_ble_eq_true rfl) hl.1 hH hS hc hs (fun H1 locs1 hH1 hS1 => ?_)
  show W p l e room_1 s m #[Value.ref b] below meth c H1 locs1 _ _ (lw_Z below #[Value.ref b] s) (F0 m 1176 ls [.int w])
  have hS := hS1
  refine lv_aload_n hx hb dl_1176 rfl (lv_at hl 2 rfl) ?_
  refine lv_aload_n hx hb dl_1177 rfl (lv_at hl 0 rfl) ?_
  refine lv_iload_n hx hb dl_1178 rfl (lv_at hl 3 rfl) ?_
  refine lv_iconst (v := 1) hx hb dl_1179 (by decide) ?_
  refine lv_iadd hx hb dl_1180 ?_
  refine va_sld hx hb hX hbl hbA hS (i := (0 + 1)) (by rw [hL]; unfold vp_in; decide) dl_1181 ?_
  refine W.eq (g2 := F0 m 1182 ls ((([.int (xs (Int32.toNatClampNeg (0 + 1)))] : List Value).map (j_rv g)).reverse ++ .ref (ad 117) :: [.int w])) rfl ?_
  refine j_lawV hC (as := [.int (xs (Int32.toNatClampNeg (0 + 1)))]) (a := 117) (rest := [.int w]) r2 dl_1182 (j := 356) (Nat.le_of_ble_eq_true rfl) (by decide +kernel) (j_has_in (c := 10) (o := 17) (by decide +kernel)) (Nat.le_of_ble_eq_true rfl) r3 (show 1 = j_np 356 from by decide +kernel) (show (lg_sl _).length ≤ 2 from Nat.le_of_ble_eq_true rfl) (Nat.le_of_ble_eq_true rfl) (show 8 + (2 + 11) + 20000 ≤ 84000 from Nat.le_of_ble_eq_true rfl) (Nat.le_of_ble_eq_true rfl) hl.1 hH1 hS1 hc hs (fun H2 locs2 hH2 hS2 => ?_)
  show W p l e room_1 s m #[Value.ref b] below meth c H2 locs2 _ _ (lw_Z below #[Value.ref b] s) (F0 m 1185 ls [.int w, .int w])
  have hS := hS2
  refine lv_icmp_eq (tgt := 1226) hx hb dl_1185 (by decide) (fun hqe => ?_) (fun hqe => ?_)
  · skip
    refine lv_iinc (v := 6) (lv' := [(3, .int 6), (0, .ref b), (1, .ref (ad 9)), (2, .ref (ad 117))]) hx hb dl_1226 hl (k := 3) rfl (by decide) (by decide) rfl (fun ls hl => ?_)
    refine lv_goto (tgt := 18) hx hb dl_1229 (by decide) ?_
    exact law_end C0 hC hL hS hc hs (lv_sub hl [0, 1] rfl)
  · exact absurd rfl hqe
set_option maxHeartbeats 4000000 in
theorem law_c35 {p : Program} {l : Launch} {e : Env} {s : State} {m : MethodId} {below : List Frame} {meth : Method} {c : Code} {b L : Nat} {xs : Nat → Int32} {g : Nat → Value} {ad : Nat → Nat} {D : va_G} {cA : Nat → ClassId} {H : Heap} {locs : List Loc} {cells slots : Nat} {ls : Array Slot} (C0 : lw_At p s m meth c b L xs) (hC : j_Cx g ad s.heap.size D cA vwCl j_TW j_zs j_ks "HundredWordsLaw" "law" code 4 p s m #[.ref b] meth c) (hL : L = 6) (hH : j_H g ad s.heap.size D cA vwCl s H jh2) (hS : va_S (j_A s.heap.size) s.heap H locs) (hc : cells ≤ 600000) (hs : slots ≤ 7302250) (hl : lv_has ls 4 [(0, .ref b), (1, .ref (ad 9)), (2, .ref (ad 117)), (3, .int 0)]) : W p l e room_1 s m #[Value.ref b] below meth c H locs cells slots (lw_Z below #[Value.ref b] s) (F0 m 1190 ls []) := by
  obtain ⟨hx, hb, hr, hml, hown, hts, hX, hbl, hlocks, hgv⟩ := id C0
  have hbA : ¬ j_A s.heap.size b := Nat.not_le.mpr hbl
  refine lv_aload_n hx hb dl_1190 rfl (lv_at hl 1 rfl) ?_
  obtain ⟨n1, n2, w, h1, h2, r1, r2, r3⟩ := pm_restore 
  refine W.eq (g2 := F0 m 1191 ls ((([] : List Value).map (j_rv g)).reverse ++ .ref (ad 9) :: [])) rfl ?_
  refine j_lawV hC (as := []) (a := 9) (rest := []) r1 dl_1191 (j := 206) (Nat.le_of_ble_eq_true rfl) (by decide +kernel) (j_has_in (c := 6) (o := 70) (by decide +kernel)) (Nat.le_of_ble_eq_true rfl) jh2_x (show 0 = j_np 206 from by decide +kernel) (show (lg_sl _).length ≤ 2 from Nat.le_of_ble_eq_true rfl) (Nat.le_of_ble_eq_true rfl) (show 8 + (2 + 11) + 20000 ≤ 84000 from Nat.le_of_ble_eq_true rfl) (Nat.le_of_ble_eq_true rfl) hl.1 hH hS hc hs (fun H1 locs1 hH1 hS1 => ?_)
  show W p l e room_1 s m #[Value.ref b] below meth c H1 locs1 _ _ (lw_Z below #[Value.ref b] s) (F0 m 1194 ls [.int w])
  have hS := hS1
  refine lv_aload_n hx hb dl_1194 rfl (lv_at hl 2 rfl) ?_
  refine W.eq (g2 := F0 m 1195 ls ((([] : List Value).map (j_rv g)).reverse ++ .ref (ad 117) :: [.int w])) rfl ?_
  refine j_lawV hC (as := []) (a := 117) (rest := [.int w]) r2 dl_1195 (j := 357) (Nat.le_of_ble_eq_true rfl) (by decide +kernel) (j_has_in (c := 10) (o := 21) (by decide +kernel)) (Nat.le_of_ble_eq_true rfl) r3 (show 0 = j_np 357 from by decide +kernel) (show (lg_sl _).length ≤ 4 from Nat.le_of_ble_eq_true rfl) (Nat.le_of_ble_eq_true rfl) (show 8 + (4 + 11) + 20000 ≤ 84000 from Nat.le_of_ble_eq_true rfl) (Nat.le_of_ble_eq_true rfl) hl.1 hH1 hS1 hc hs (fun H2 locs2 hH2 hS2 => ?_)
  show W p l e room_1 s m #[Value.ref b] below meth c H2 locs2 _ _ (lw_Z below #[Value.ref b] s) (F0 m 1198 ls [.int w, .int w])
  have hS := hS2
  refine lv_icmp_eq (tgt := 1226) hx hb dl_1198 (by decide) (fun hqe => ?_) (fun hqe => ?_)
  · skip
    refine lv_iinc (v := 6) (lv' := [(3, .int 6), (0, .ref b), (1, .ref (ad 9)), (2, .ref (ad 117))]) hx hb dl_1226 hl (k := 3) rfl (by decide) (by decide) rfl (fun ls hl => ?_)
    refine lv_goto (tgt := 18) hx hb dl_1229 (by decide) ?_
    exact law_end C0 hC hL hS hc hs (lv_sub hl [0, 1] rfl)
  · exact absurd rfl hqe
set_option maxHeartbeats 4000000 in
theorem law_c36 {p : Program} {l : Launch} {e : Env} {s : State} {m : MethodId} {below : List Frame} {meth : Method} {c : Code} {b L : Nat} {xs : Nat → Int32} {g : Nat → Value} {ad : Nat → Nat} {D : va_G} {cA : Nat → ClassId} {H : Heap} {locs : List Loc} {cells slots : Nat} {ls : Array Slot} (C0 : lw_At p s m meth c b L xs) (hC : j_Cx g ad s.heap.size D cA vwCl j_TW j_zs j_ks "HundredWordsLaw" "law" code 4 p s m #[.ref b] meth c) (hL : L = 6) (hH : j_H g ad s.heap.size D cA vwCl s H jh2) (hS : va_S (j_A s.heap.size) s.heap H locs) (hc : cells ≤ 600000) (hs : slots ≤ 7302250) (hl : lv_has ls 4 [(0, .ref b), (1, .ref (ad 9)), (2, .ref (ad 117)), (3, .int 0)]) : W p l e room_1 s m #[Value.ref b] below meth c H locs cells slots (lw_Z below #[Value.ref b] s) (F0 m 1203 ls []) := by
  obtain ⟨hx, hb, hr, hml, hown, hts, hX, hbl, hlocks, hgv⟩ := id C0
  have hbA : ¬ j_A s.heap.size b := Nat.not_le.mpr hbl
  refine lv_aload_n hx hb dl_1203 rfl (lv_at hl 1 rfl) ?_
  refine lv_aload_n hx hb dl_1204 rfl (lv_at hl 0 rfl) ?_
  refine lv_iload_n hx hb dl_1205 rfl (lv_at hl 3 rfl) ?_
  refine lv_iconst (v := 1) hx hb dl_1206 (by decide) ?_
  refine lv_iadd hx hb dl_1207 ?_
  refine va_sld hx hb hX hbl hbA hS (i := (0 + 1)) (by rw [hL]; unfold vp_in; decide) dl_1208 ?_
  obtain ⟨n1, n2, w, h1, h2, r1, r2, r3⟩ := pm_status ((xs (Int32.toNatClampNeg (0 + 1))))
  refine W.eq (g2 := F0 m 1209 ls ((([.int (xs (Int32.toNatClampNeg (0 + 1)))] : List Value).map (j_rv g)).reverse ++ .ref (ad 9) :: [])) rfl ?_
  refine j_lawV hC (as := [.int (xs (Int32.toNatClampNeg (0 + 1)))]) (a := 9) (rest := []) r1 dl_1209 (j := 210) (Nat.le_of_ble_eq_true rfl) (by decide +kernel) (j_has_in (c := 6) (o := 91) (by decide +kernel)) (Nat.le_of_ble_eq_true rfl) jh2_x (show 1 = j_np 210 from by decide +kernel) (show (lg_sl _).length ≤ 2 from Nat.le_of_ble_eq_true rfl) (Nat.le_of_ble_eq_true rfl) (show 8 + (2 + 11) + 20000 ≤ 84000 from Nat.le_of_ble_eq_true rfl) (Nat.le_of_ble_eq_true rfl) hl.1 hH hS hc hs (fun H1 locs1 hH1 hS1 => ?_)
  show W p l e room_1 s m #[Value.ref b] below meth c H1 locs1 _ _ (lw_Z below #[Value.ref b] s) (F0 m 1212 ls [.int w])
  have hS := hS1
  refine lv_aload_n hx hb dl_1212 rfl (lv_at hl 2 rfl) ?_
  refine lv_aload_n hx hb dl_1213 rfl (lv_at hl 0 rfl) ?_
  refine lv_iload_n hx hb dl_1214 rfl (lv_at hl 3 rfl) ?_
  refine lv_iconst (v := 1) hx hb dl_1215 (by decide) ?_
  refine lv_iadd hx hb dl_1216 ?_
  refine va_sld hx hb hX hbl hbA hS (i := (0 + 1)) (by rw [hL]; unfold vp_in; decide) dl_1217 ?_
  refine W.eq (g2 := F0 m 1218 ls ((([.int (xs (Int32.toNatClampNeg (0 + 1)))] : List Value).map (j_rv g)).reverse ++ .ref (ad 117) :: [.int w])) rfl ?_
  refine j_lawV hC (as := [.int (xs (Int32.toNatClampNeg (0 + 1)))]) (a := 117) (rest := [.int w]) r2 dl_1218 (j := 359) (Nat.le_of_ble_eq_true rfl) (by decide +kernel) (j_has_in (c := 10) (o := 29) (by decide +kernel)) (Nat.le_of_ble_eq_true rfl) r3 (show 1 = j_np 359 from by decide +kernel) (show (lg_sl _).length ≤ 2 from Nat.le_of_ble_eq_true rfl) (Nat.le_of_ble_eq_true rfl) (show 8 + (2 + 11) + 20000 ≤ 84000 from Nat.le_of_ble_eq_true rfl) (Nat.le_of_ble_eq_true rfl) hl.1 hH1 hS1 hc hs (fun H2 locs2 hH2 hS2 => ?_)
  show W p l e room_1 s m #[Value.ref b] below meth c H2 locs2 _ _ (lw_Z below #[Value.ref b] s) (F0 m 1221 ls [.int w, .int w])
  have hS := hS2
  refine lv_icmp_eq (tgt := 1226) hx hb dl_1221 (by decide) (fun hqe => ?_) (fun hqe => ?_)
  · skip
    refine lv_iinc (v := 6) (lv' := [(3, .int 6), (0, .ref b), (1, .ref (ad 9)), (2, .ref (ad 117))]) hx hb dl_1226 hl (k := 3) rfl (by decide) (by decide) rfl (fun ls hl => ?_)
    refine lv_goto (tgt := 18) hx hb dl_1229 (by decide) ?_
    exact law_end C0 hC hL hS hc hs (lv_sub hl [0, 1] rfl)
  · exact absurd rfl hqe
set_option maxHeartbeats 4000000 in
theorem law_cd {p : Program} {l : Launch} {e : Env} {s : State} {m : MethodId} {below : List Frame} {meth : Method} {c : Code} {b L : Nat} {xs : Nat → Int32} {g : Nat → Value} {ad : Nat → Nat} {D : va_G} {cA : Nat → ClassId} {H : Heap} {locs : List Loc} {cells slots : Nat} {ls : Array Slot} (C0 : lw_At p s m meth c b L xs) (hC : j_Cx g ad s.heap.size D cA vwCl j_TW j_zs j_ks "HundredWordsLaw" "law" code 4 p s m #[.ref b] meth c) (hL : L = 6) (hH : j_H g ad s.heap.size D cA vwCl s H jh2) (hS : va_S (j_A s.heap.size) s.heap H locs) (hc : cells ≤ 600000) (hs : slots ≤ 7302250) (hl : lv_has ls 4 [(0, .ref b), (1, .ref (ad 9)), (2, .ref (ad 117)), (3, .int 0)]) : W p l e room_1 s m #[Value.ref b] below meth c H locs cells slots (lw_Z below #[Value.ref b] s) (F0 m 1226 ls []) := by
  obtain ⟨hx, hb, hr, hml, hown, hts, hX, hbl, hlocks, hgv⟩ := id C0
  have hbA : ¬ j_A s.heap.size b := Nat.not_le.mpr hbl
  refine lv_iinc (v := 6) (lv' := [(3, .int 6), (0, .ref b), (1, .ref (ad 9)), (2, .ref (ad 117))]) hx hb dl_1226 hl (k := 3) rfl (by decide) (by decide) rfl (fun ls hl => ?_)
  refine lv_goto (tgt := 18) hx hb dl_1229 (by decide) ?_
  exact law_end C0 hC hL hS hc hs (lv_sub hl [0, 1] rfl)
