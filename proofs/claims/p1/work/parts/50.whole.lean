set_option maxHeartbeats 8000000 in
set_option maxRecDepth 100000 in
theorem whole_start {p : Program} {e : Env} {s : State} {m : MethodId} {below : List Frame} {meth : Method} {c : Code} (l : Launch) (hflags : l.flags = flags0) {b L : Nat} {xs : Nat → Int32} (hL : L ≤ 6) (C0 : lw_At p s m meth c b L xs) : W p l e room_1 s m #[Value.ref b] below meth c s.heap [] 0 0 (lw_Z below #[Value.ref b] s) (entryFrame m ([Value.ref b] : List Value).toArray 4) := by
  obtain ⟨g, ad, D, cA, hC, hH0, h0⟩ := j_start C0
  obtain ⟨hx, hb, hr, hml, hown, hts, hX, hbl, hlocks, hgv⟩ := id C0
  have hG := hC.1
  have hbA : ¬ j_A s.heap.size b := Nat.not_le.mpr hbl
  have hS0 : va_S (j_A s.heap.size) s.heap s.heap [] := va_S.rf
  have gX : g 9 = .ref (ad 9) := hG.ref (Nat.le_of_ble_eq_true rfl)
  have gM : g 117 = .ref (ad 117) := hG.ref (Nat.le_of_ble_eq_true rfl)
  rw [lg_entry_eq]
  have hl := lv_entry ([.ref b]) (n := 4) (Nat.le_of_ble_eq_true rfl)
  generalize (lg_sl ([.ref b]) ++ List.replicate (4 - (lg_sl ([.ref b])).length) Slot.unset).toArray = ls at hl ⊢
  have hl : lv_has ls 4 [(0, .ref b)] := hl
  have e0 : j_sl g [(0, .ref 0)] = [(0, .ref b)] := by show [(0, g 0)] = _; rw [h0]
  refine j_s_new (lv := [(0, .ref 0)]) (st := []) (hp := j_hp0) (pc' := 3) (lv' := [(0, .ref 0)]) (st' := [.ref 9]) (hp' := jh_x0) (dc := 1) (ds := 16) (l1 := 11) (l2 := 0) (val := .null) (ty := .int) (df := j_df) hC j_kd_ok dl_0 rfl ⟨RX11, TX11, 16, rfl, j_has_in (c := 1) (o := 22) (by decide +kernel), j_ki11.1, j_ki11.2⟩ rfl (by rw [e0]; exact hl) hH0 hS0 (Nat.le_of_ble_eq_true rfl) (Nat.le_of_ble_eq_true rfl) (fun H1 locs1 ls1 hl1 hH1 hS1 => ?_)
  rw [e0] at hl1
  show W p l e room_1 s m #[Value.ref b] below meth c H1 locs1 _ _ (lw_Z below #[Value.ref b] s) (F0 m 3 ls1 [g 9])
  rw [gX]
  refine lv_dup hx hb dl_3 rfl ?_
  refine j_lawI hC (a := 9) (rest := [.ref (ad 9)]) jh1_run dl_4 (j := 0) (Nat.le_of_ble_eq_true rfl) (by decide +kernel) (j_has_in (c := 1) (o := 24) (by decide +kernel)) (Nat.le_of_ble_eq_true rfl) (by decide +kernel) (by decide +kernel) (Nat.le_of_ble_eq_true rfl) (show 8 + (1 + 11) + 20000 ≤ 84000 from Nat.le_of_ble_eq_true rfl) (Nat.le_of_ble_eq_true rfl) hl1.1 hH1 hS1 (show 0 + 1 + 107 ≤ 600000 from Nat.le_of_ble_eq_true rfl) (show 0 + 16 + 15926 ≤ 7302250 from Nat.le_of_ble_eq_true rfl) (fun H2 locs2 hH2 hS2 => ?_)
  show W p l e room_1 s m #[Value.ref b] below meth c H2 locs2 _ _ (lw_Z below #[Value.ref b] s) (F0 m 7 ls1 [.ref (ad 9)])
  refine lv_astore_n (lv' := [(1, .ref (ad 9)), (0, .ref b)]) hx hb dl_7 rfl hl1 (by decide) rfl (fun ls2 hl2 => ?_)
  have e1 : j_sl g [(1, .ref 9), (0, .ref 0)] = [(1, .ref (ad 9)), (0, .ref b)] := by show [(1, g 9), (0, g 0)] = _; rw [h0, gX]
  refine j_s_new (lv := [(1, .ref 9), (0, .ref 0)]) (st := []) (hp := jh1) (pc' := 11) (lv' := [(1, .ref 9), (0, .ref 0)]) (st' := [.ref 117]) (hp' := jh_x1) (dc := 1) (ds := 98) (l1 := 12) (l2 := 0) (val := .null) (ty := .int) (df := j_df) hC j_kd_ok dl_8 rfl ⟨RX12, TX12, 98, rfl, j_has_in (c := 6) (o := 95) (by decide +kernel), j_ki12.1, j_ki12.2⟩ rfl (by rw [e1]; exact hl2) hH2 hS2 (show 0 + 1 + 107 + 1 ≤ 600000 from Nat.le_of_ble_eq_true rfl) (show 0 + 16 + 15926 + 98 ≤ 7302250 from Nat.le_of_ble_eq_true rfl) (fun H3 locs3 ls3 hl3 hH3 hS3 => ?_)
  rw [e1] at hl3
  show W p l e room_1 s m #[Value.ref b] below meth c H3 locs3 _ _ (lw_Z below #[Value.ref b] s) (F0 m 11 ls3 [g 117])
  rw [gM]
  refine lv_dup hx hb dl_11 rfl ?_
  refine j_lawI hC (a := 117) (rest := [.ref (ad 117)]) jh2_run dl_12 (j := 211) (Nat.le_of_ble_eq_true rfl) (by decide +kernel) (j_has_in (c := 6) (o := 97) (by decide +kernel)) (Nat.le_of_ble_eq_true rfl) (by decide +kernel) (by decide +kernel) (Nat.le_of_ble_eq_true rfl) (show 8 + (1 + 11) + 20000 ≤ 84000 from Nat.le_of_ble_eq_true rfl) (Nat.le_of_ble_eq_true rfl) hl3.1 hH3 hS3 (show 0 + 1 + 107 + 1 + 62 ≤ 600000 from Nat.le_of_ble_eq_true rfl) (show 0 + 16 + 15926 + 98 + 15579 ≤ 7302250 from Nat.le_of_ble_eq_true rfl) (fun H4 locs4 hH4 hS4 => ?_)
  show W p l e room_1 s m #[Value.ref b] below meth c H4 locs4 _ _ (lw_Z below #[Value.ref b] s) (F0 m 15 ls3 [.ref (ad 117)])
  refine lv_astore_n (lv' := [(2, .ref (ad 117)), (1, .ref (ad 9)), (0, .ref b)]) hx hb dl_15 rfl hl3 (by decide) rfl (fun ls4 hl4 => ?_)
  refine lv_iconst (v := 0) hx hb dl_16 (by decide) ?_
  refine lv_istore_n (lv' := [(3, .int 0), (2, .ref (ad 117)), (1, .ref (ad 9)), (0, .ref b)]) hx hb dl_17 rfl hl4 (by decide) rfl (fun ls5 hl5 => ?_)
  have hl := lv_sub hl5 [3, 2, 1, 0] rfl
  have hc : 0 + 1 + 107 + 1 + 62 ≤ 600000 := Nat.le_of_ble_eq_true rfl
  have hs : 0 + 16 + 15926 + 98 + 15579 ≤ 7302250 := Nat.le_of_ble_eq_true rfl
  refine lv_iload_n hx hb dl_18 rfl (lv_at hl 3 rfl) ?_
  refine lv_aload_n hx hb dl_19 rfl (lv_at hl 0 rfl) ?_
  refine va_slen hx hb hX hbl hbA hS4 dl_20 ?_
  refine lv_bipush hx hb dl_21 rfl ?_
  refine lv_isub hx hb dl_23 ?_
  refine lv_icmp_gt (tgt := 1232) hx hb dl_24 (by decide) (fun hq => ?_) (fun hq => ?_)
  · refine lv_iconst (v := 1) hx hb dl_1232 (by decide) ?_
    exact j_lawRet hx hb hr hlocks dl_1233 hS4 hc hs
  · have hL6 : L = 6 := by
      have h7 : ∀ k, k < 6 → Int32.ofNat k - (Int8.ofInt 6).toInt32 < 0 := by decide
      rcases Nat.lt_or_ge L 6 with h8 | h8
      · exact absurd (h7 L h8) hq
      · omega
    refine lv_aload_n hx hb dl_27 rfl (lv_at hl 0 rfl) ?_
    refine lv_iload_n hx hb dl_28 rfl (lv_at hl 3 rfl) ?_
    refine va_sld hx hb hX hbl hbA hS4 (i := 0) (by rw [hL6]; unfold vp_in; decide) dl_29 ?_
    refine lv_bipush hx hb dl_30 rfl ?_
    refine lv_iand hx hb dl_32 ?_
    refine lv_topi (fun z ez => ?_)
    by_cases h9 : z.toInt < 0 ∨ 36 < z.toInt
    · exact lv_tableOut (tgt := 1226) hx hb dl_33 h9 (by decide) (law_cd C0 hC hL6 hH4 hS4 hc hs hl)
    · obtain ⟨q, hq1, hq2⟩ : ∃ q : Nat, q < 37 ∧ z.toInt = (q : Int) := ⟨z.toInt.toNat, by omega, by omega⟩
      obtain ⟨off, tgt, k1, k2, k3⟩ : ∃ (off : Int) (tgt : Nat), (#[163, 226, 249, 262, 301, 324, 347, 380, 429, 478, 527, 560, 593, 616, 649, 672, 705, 718, 741, 790, 803, 836, 849, 898, 911, 960, 999, 1012, 1035, 1058, 1071, 1094, 1107, 1121, 1134, 1157, 1170] : Array Int)[q]? = some off ∧ ((33 : Nat) : Int) + off = (tgt : Int) ∧ W p l e room_1 s m #[Value.ref b] below meth c H4 locs4 (0 + 1 + 107 + 1 + 62) (0 + 16 + 15926 + 98 + 15579) (lw_Z below #[Value.ref b] s) (F0 m tgt ls5 []) := by
        match q, hq1 with
        | 0, _ => exact ⟨163, 196, rfl, rfl, law_c0 C0 hC hL6 hH4 hS4 hc hs hl⟩
        | 1, _ => exact ⟨226, 259, rfl, rfl, law_c1 C0 hC hL6 hH4 hS4 hc hs hl⟩
        | 2, _ => exact ⟨249, 282, rfl, rfl, law_c2 C0 hC hL6 hH4 hS4 hc hs hl⟩
        | 3, _ => exact ⟨262, 295, rfl, rfl, law_c3 C0 hC hL6 hH4 hS4 hc hs hl⟩
        | 4, _ => exact ⟨301, 334, rfl, rfl, law_c4 C0 hC hL6 hH4 hS4 hc hs hl⟩
        | 5, _ => exact ⟨324, 357, rfl, rfl, law_c5 C0 hC hL6 hH4 hS4 hc hs hl⟩
        | 6, _ => exact ⟨347, 380, rfl, rfl, law_c6 C0 hC hL6 hH4 hS4 hc hs hl⟩
        | 7, _ => exact ⟨380, 413, rfl, rfl, law_c7 C0 hC hL6 hH4 hS4 hc hs hl⟩
        | 8, _ => exact ⟨429, 462, rfl, rfl, law_c8 C0 hC hL6 hH4 hS4 hc hs hl⟩
        | 9, _ => exact ⟨478, 511, rfl, rfl, law_c9 C0 hC hL6 hH4 hS4 hc hs hl⟩
        | 10, _ => exact ⟨527, 560, rfl, rfl, law_c10 C0 hC hL6 hH4 hS4 hc hs hl⟩
        | 11, _ => exact ⟨560, 593, rfl, rfl, law_c11 C0 hC hL6 hH4 hS4 hc hs hl⟩
        | 12, _ => exact ⟨593, 626, rfl, rfl, law_c12 C0 hC hL6 hH4 hS4 hc hs hl⟩
        | 13, _ => exact ⟨616, 649, rfl, rfl, law_c13 C0 hC hL6 hH4 hS4 hc hs hl⟩
        | 14, _ => exact ⟨649, 682, rfl, rfl, law_c14 C0 hC hL6 hH4 hS4 hc hs hl⟩
        | 15, _ => exact ⟨672, 705, rfl, rfl, law_c15 C0 hC hL6 hH4 hS4 hc hs hl⟩
        | 16, _ => exact ⟨705, 738, rfl, rfl, law_c16 C0 hC hL6 hH4 hS4 hc hs hl⟩
        | 17, _ => exact ⟨718, 751, rfl, rfl, law_c17 C0 hC hL6 hH4 hS4 hc hs hl⟩
        | 18, _ => exact ⟨741, 774, rfl, rfl, law_c18 C0 hC hL6 hH4 hS4 hc hs hl⟩
        | 19, _ => exact ⟨790, 823, rfl, rfl, law_c19 C0 hC hL6 hH4 hS4 hc hs hl⟩
        | 20, _ => exact ⟨803, 836, rfl, rfl, law_c20 C0 hC hL6 hH4 hS4 hc hs hl⟩
        | 21, _ => exact ⟨836, 869, rfl, rfl, law_c21 C0 hC hL6 hH4 hS4 hc hs hl⟩
        | 22, _ => exact ⟨849, 882, rfl, rfl, law_c22 C0 hC hL6 hH4 hS4 hc hs hl⟩
        | 23, _ => exact ⟨898, 931, rfl, rfl, law_c23 C0 hC hL6 hH4 hS4 hc hs hl⟩
        | 24, _ => exact ⟨911, 944, rfl, rfl, law_c24 C0 hC hL6 hH4 hS4 hc hs hl⟩
        | 25, _ => exact ⟨960, 993, rfl, rfl, law_c25 C0 hC hL6 hH4 hS4 hc hs hl⟩
        | 26, _ => exact ⟨999, 1032, rfl, rfl, law_c26 C0 hC hL6 hH4 hS4 hc hs hl⟩
        | 27, _ => exact ⟨1012, 1045, rfl, rfl, law_c27 C0 hC hL6 hH4 hS4 hc hs hl⟩
        | 28, _ => exact ⟨1035, 1068, rfl, rfl, law_c28 C0 hC hL6 hH4 hS4 hc hs hl⟩
        | 29, _ => exact ⟨1058, 1091, rfl, rfl, law_c29 C0 hC hL6 hH4 hS4 hc hs hl⟩
        | 30, _ => exact ⟨1071, 1104, rfl, rfl, law_c30 C0 hC hL6 hH4 hS4 hc hs hl⟩
        | 31, _ => exact ⟨1094, 1127, rfl, rfl, law_c31 C0 hC hL6 hH4 hS4 hc hs hl⟩
        | 32, _ => exact ⟨1107, 1140, rfl, rfl, law_c32 C0 hC hL6 hH4 hS4 hc hs hl⟩
        | 33, _ => exact ⟨1121, 1154, rfl, rfl, law_c33 C0 hC hL6 hH4 hS4 hc hs hl⟩
        | 34, _ => exact ⟨1134, 1167, rfl, rfl, law_c34 C0 hC hL6 hH4 hS4 hc hs hl⟩
        | 35, _ => exact ⟨1157, 1190, rfl, rfl, law_c35 C0 hC hL6 hH4 hS4 hc hs hl⟩
        | 36, _ => exact ⟨1170, 1203, rfl, rfl, law_c36 C0 hC hL6 hH4 hS4 hc hs hl⟩
        | n + 37, h => exact absurd h (by omega)
      exact lv_tableIn (off := off) (tgt := tgt) hx hb dl_33 (by omega) (by omega) (by rw [hq2]; simpa using k1) k2 k3
