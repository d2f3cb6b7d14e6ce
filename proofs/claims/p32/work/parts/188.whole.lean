theorem law_gt {L t : Nat} (hL : L ≤ 3072) (ht : 6 * t ≤ L) (h : ¬ Int32.ofNat L - (Int8.ofInt 6).toInt32 < Int32.ofNat (6 * t)) : 6 * t + 6 ≤ L := by
  have e6 : (Int8.ofInt 6).toInt32 = Int32.ofInt 6 := by decide
  rw [e6, ← Int32.ofInt_eq_ofNat, ← Int32.ofInt_eq_ofNat, m_sub, m_lt ⟨by omega, by omega⟩ ⟨by omega, by omega⟩] at h
  omega
theorem law_vp {L t : Nat} (hL : L ≤ 3072) (ht : 6 * t + 6 ≤ L) (d : Nat) (hd : d ≤ 5) : vp_in (Int32.ofNat (6 * t) + Int32.ofNat d) L := by
  rw [← Int32.ofInt_eq_ofNat, ← Int32.ofInt_eq_ofNat, m_add]
  obtain ⟨g1, g2, g3⟩ := m_ix (z := ((6 * t : Nat) : Int) + (d : Int)) (n := L) (by omega) (by omega) (by omega)
  unfold vp_in
  rintro (q | q)
  · exact g1 q
  · rw [g2] at q
    omega
theorem law_nx (t : Nat) : Int32.ofNat (6 * t) + Int32.ofInt 6 = Int32.ofNat (6 * (t + 1)) := by
  rw [← Int32.ofInt_eq_ofNat, ← Int32.ofInt_eq_ofNat, m_add]
  congr 1
set_option maxHeartbeats 8000000 in
set_option maxRecDepth 100000 in
theorem law_at {p : Program} {l : Launch} {e : Env} {s : State} {m : MethodId} {below : List Frame} {meth : Method} {c : Code} {b L : Nat} {xs : Nat → Int32} {g : Nat → Value} {ad : Nat → Nat} {D : va_G} {cA : Nat → ClassId} {cells slots : Nat} (C0 : lw_At p s m meth c b L xs) (hC : j_Cx g ad s.heap.size D cA vwCl j_TW j_zs j_ks "HundredWordsLaw" "law" code 4 p s m #[.ref b] meth c) (hL : L ≤ 3072) (hc : cells ≤ 600000) (hs : slots ≤ 7302250) : ∀ (n t : Nat) (H : Heap) (locs : List Loc) (ls : Array Slot) (σ : jM), L ≤ 6 * t + n → 6 * t ≤ L → Inv σ → j_H g ad s.heap.size D cA vwCl s H (HP σ) → va_S (j_A s.heap.size) s.heap H locs → lv_has ls 4 [(0, .ref b), (1, .ref (ad 9)), (2, .ref (ad 117)), (3, .int (Int32.ofNat (6 * t)))] → W p l e room_1 s m #[Value.ref b] below meth c H locs cells slots (lw_Z below #[Value.ref b] s) (F0 m 18 ls []) := by
  obtain ⟨hx, hb, hr, hml, hown, hts, hX, hbl, hlocks, hgv⟩ := id C0
  have hbA : ¬ j_A s.heap.size b := Nat.not_le.mpr hbl
  intro n
  induction n with
  | zero =>
    intro t H locs ls σ hn ht I hH hS hl
    refine lv_iload_n hx hb dl_18 rfl (lv_at hl 3 rfl) ?_
    refine lv_aload_n hx hb dl_19 rfl (lv_at hl 0 rfl) ?_
    refine va_slen hx hb hX hbl hbA hS dl_20 ?_
    refine lv_bipush hx hb dl_21 rfl ?_
    refine lv_isub hx hb dl_23 ?_
    refine lv_icmp_gt (tgt := 1231) hx hb dl_24 (by decide) (fun hq => ?_) (fun hq => ?_)
    · refine lv_iconst (v := 1) hx hb dl_1231 (by decide) ?_
      exact j_lawRet hx hb hr hlocks dl_1232 hS hc hs
    · exact absurd (law_gt hL ht hq) (by omega)
  | succ n ih =>
    intro t H locs ls σ hn ht I hH hS hl
    refine lv_iload_n hx hb dl_18 rfl (lv_at hl 3 rfl) ?_
    refine lv_aload_n hx hb dl_19 rfl (lv_at hl 0 rfl) ?_
    refine va_slen hx hb hX hbl hbA hS dl_20 ?_
    refine lv_bipush hx hb dl_21 rfl ?_
    refine lv_isub hx hb dl_23 ?_
    refine lv_icmp_gt (tgt := 1231) hx hb dl_24 (by decide) (fun hq => ?_) (fun hq => ?_)
    · refine lv_iconst (v := 1) hx hb dl_1231 (by decide) ?_
      exact j_lawRet hx hb hr hlocks dl_1232 hS hc hs
    · have h6 := law_gt hL ht hq
      have hv := law_vp hL h6
      have hv0 : vp_in (Int32.ofNat (6 * t)) L := by
        have := hv 0 (by decide)
        rwa [show Int32.ofNat (6 * t) + Int32.ofNat 0 = Int32.ofNat (6 * t) from Int32.add_zero _] at this
      have K : ∀ (H2 : Heap) (locs2 : List Loc) (ls2 : Array Slot) (ρ : jM), Inv ρ → j_H g ad s.heap.size D cA vwCl s H2 (HP ρ) → va_S (j_A s.heap.size) s.heap H2 locs2 → lv_has ls2 4 [(3, .int (Int32.ofNat (6 * t) + Int32.ofInt 6)), (0, .ref b), (1, .ref (ad 9)), (2, .ref (ad 117))] → W p l e room_1 s m #[Value.ref b] below meth c H2 locs2 cells slots (lw_Z below #[Value.ref b] s) (F0 m 18 ls2 []) := by
        intro H2 locs2 ls2 ρ I2 hH2 hS2 hl2
        rw [law_nx] at hl2
        exact ih (t + 1) H2 locs2 ls2 ρ (by omega) (by omega) I2 hH2 hS2 (lv_sub hl2 [1, 2, 3, 0] rfl)
      refine lv_aload_n hx hb dl_27 rfl (lv_at hl 0 rfl) ?_
      refine lv_iload_n hx hb dl_28 rfl (lv_at hl 3 rfl) ?_
      refine va_sld hx hb hX hbl hbA hS (i := Int32.ofNat (6 * t)) hv0 dl_29 ?_
      refine lv_bipush hx hb dl_30 rfl ?_
      refine lv_iand hx hb dl_32 ?_
      refine lv_topi (fun z ez => ?_)
      by_cases h9 : z.toInt < 0 ∨ 36 < z.toInt
      · exact lv_tableOut (tgt := 1225) hx hb dl_33 h9 (by decide) (law_cd C0 hC hv I hH hS hc hs hl K)
      · obtain ⟨q, hq1, hq2⟩ : ∃ q : Nat, q < 37 ∧ z.toInt = (q : Int) := ⟨z.toInt.toNat, by omega, by omega⟩
        obtain ⟨off, tgt, k1, k2, k3⟩ : ∃ (off : Int) (tgt : Nat), (#[163, 226, 249, 262, 301, 324, 347, 380, 429, 478, 527, 560, 593, 616, 649, 672, 705, 718, 741, 790, 803, 836, 849, 898, 911, 960, 999, 1012, 1035, 1058, 1071, 1094, 1107, 1120, 1133, 1156, 1169] : Array Int)[q]? = some off ∧ ((33 : Nat) : Int) + off = (tgt : Int) ∧ W p l e room_1 s m #[Value.ref b] below meth c H locs cells slots (lw_Z below #[Value.ref b] s) (F0 m tgt ls []) := by
          match q, hq1 with
          | 0, _ => exact ⟨163, 196, rfl, rfl, law_c0 C0 hC hv I hH hS hc hs hl K⟩
          | 1, _ => exact ⟨226, 259, rfl, rfl, law_c1 C0 hC hv I hH hS hc hs hl K⟩
          | 2, _ => exact ⟨249, 282, rfl, rfl, law_c2 C0 hC hv I hH hS hc hs hl K⟩
          | 3, _ => exact ⟨262, 295, rfl, rfl, law_c3 C0 hC hv I hH hS hc hs hl K⟩
          | 4, _ => exact ⟨301, 334, rfl, rfl, law_c4 C0 hC hv I hH hS hc hs hl K⟩
          | 5, _ => exact ⟨324, 357, rfl, rfl, law_c5 C0 hC hv I hH hS hc hs hl K⟩
          | 6, _ => exact ⟨347, 380, rfl, rfl, law_c6 C0 hC hv I hH hS hc hs hl K⟩
          | 7, _ => exact ⟨380, 413, rfl, rfl, law_c7 C0 hC hv I hH hS hc hs hl K⟩
          | 8, _ => exact ⟨429, 462, rfl, rfl, law_c8 C0 hC hv I hH hS hc hs hl K⟩
          | 9, _ => exact ⟨478, 511, rfl, rfl, law_c9 C0 hC hv I hH hS hc hs hl K⟩
          | 10, _ => exact ⟨527, 560, rfl, rfl, law_c10 C0 hC hv I hH hS hc hs hl K⟩
          | 11, _ => exact ⟨560, 593, rfl, rfl, law_c11 C0 hC hv I hH hS hc hs hl K⟩
          | 12, _ => exact ⟨593, 626, rfl, rfl, law_c12 C0 hC hv I hH hS hc hs hl K⟩
          | 13, _ => exact ⟨616, 649, rfl, rfl, law_c13 C0 hC hv I hH hS hc hs hl K⟩
          | 14, _ => exact ⟨649, 682, rfl, rfl, law_c14 C0 hC hv I hH hS hc hs hl K⟩
          | 15, _ => exact ⟨672, 705, rfl, rfl, law_c15 C0 hC hv I hH hS hc hs hl K⟩
          | 16, _ => exact ⟨705, 738, rfl, rfl, law_c16 C0 hC hv I hH hS hc hs hl K⟩
          | 17, _ => exact ⟨718, 751, rfl, rfl, law_c17 C0 hC hv I hH hS hc hs hl K⟩
          | 18, _ => exact ⟨741, 774, rfl, rfl, law_c18 C0 hC hv I hH hS hc hs hl K⟩
          | 19, _ => exact ⟨790, 823, rfl, rfl, law_c19 C0 hC hv I hH hS hc hs hl K⟩
          | 20, _ => exact ⟨803, 836, rfl, rfl, law_c20 C0 hC hv I hH hS hc hs hl K⟩
          | 21, _ => exact ⟨836, 869, rfl, rfl, law_c21 C0 hC hv I hH hS hc hs hl K⟩
          | 22, _ => exact ⟨849, 882, rfl, rfl, law_c22 C0 hC hv I hH hS hc hs hl K⟩
          | 23, _ => exact ⟨898, 931, rfl, rfl, law_c23 C0 hC hv I hH hS hc hs hl K⟩
          | 24, _ => exact ⟨911, 944, rfl, rfl, law_c24 C0 hC hv I hH hS hc hs hl K⟩
          | 25, _ => exact ⟨960, 993, rfl, rfl, law_c25 C0 hC hv I hH hS hc hs hl K⟩
          | 26, _ => exact ⟨999, 1032, rfl, rfl, law_c26 C0 hC hv I hH hS hc hs hl K⟩
          | 27, _ => exact ⟨1012, 1045, rfl, rfl, law_c27 C0 hC hv I hH hS hc hs hl K⟩
          | 28, _ => exact ⟨1035, 1068, rfl, rfl, law_c28 C0 hC hv I hH hS hc hs hl K⟩
          | 29, _ => exact ⟨1058, 1091, rfl, rfl, law_c29 C0 hC hv I hH hS hc hs hl K⟩
          | 30, _ => exact ⟨1071, 1104, rfl, rfl, law_c30 C0 hC hv I hH hS hc hs hl K⟩
          | 31, _ => exact ⟨1094, 1127, rfl, rfl, law_c31 C0 hC hv I hH hS hc hs hl K⟩
          | 32, _ => exact ⟨1107, 1140, rfl, rfl, law_c32 C0 hC hv I hH hS hc hs hl K⟩
          | 33, _ => exact ⟨1120, 1153, rfl, rfl, law_c33 C0 hC hv I hH hS hc hs hl K⟩
          | 34, _ => exact ⟨1133, 1166, rfl, rfl, law_c34 C0 hC hv I hH hS hc hs hl K⟩
          | 35, _ => exact ⟨1156, 1189, rfl, rfl, law_c35 C0 hC hv I hH hS hc hs hl K⟩
          | 36, _ => exact ⟨1169, 1202, rfl, rfl, law_c36 C0 hC hv I hH hS hc hs hl K⟩
          | n + 37, h => exact absurd h (by omega)
        exact lv_tableIn (off := off) (tgt := tgt) hx hb dl_33 (by omega) (by omega) (by rw [hq2]; simpa using k1) k2 k3
set_option maxHeartbeats 8000000 in
set_option maxRecDepth 100000 in
theorem whole_start {p : Program} {e : Env} {s : State} {m : MethodId} {below : List Frame} {meth : Method} {c : Code} (l : Launch) (hflags : l.flags = flags0) {b L : Nat} {xs : Nat → Int32} (hL : L ≤ 3072) (C0 : lw_At p s m meth c b L xs) : W p l e room_1 s m #[Value.ref b] below meth c s.heap [] 0 0 (lw_Z below #[Value.ref b] s) (entryFrame m ([Value.ref b] : List Value).toArray 4) := by
  obtain ⟨g, ad, D, cA, hC, hH0, h0⟩ := j_start C0
  obtain ⟨hx, hb, hr, hml, hown, hts, hX, hbl, hlocks, hgv⟩ := id C0
  have hG := hC.1
  have hbA : ¬ j_A s.heap.size b := Nat.not_le.mpr hbl
  have hS0 : va_S (j_A s.heap.size) s.heap s.heap [] := va_S.rf
  have gX : g 9 = .ref (ad 9) := hG.ref (Nat.le_of_ble_eq_true rfl)
  have gM : g 117 = .ref (ad 117) := hG.ref (Nat.le_of_ble_eq_true rfl)
  rw [lg_entry_eq]
  have hl := lv_entry ([.ref b]) (n := 4) (Nat.le_of_ble_eq_true rfl)
  generalize (lg_sl ([.ref b]) ++ List.replicate (4 - (lg_sl ([.ref b])).length) Slot.unset).toArray = ls at hl ⊢
  have hl : lv_has ls 4 [(0, .ref b)] := hl
  have e0 : j_sl g [(0, .ref 0)] = [(0, .ref b)] := by show [(0, g 0)] = _; rw [h0]
  refine j_s_new (lv := [(0, .ref 0)]) (st := []) (hp := j_hp0) (pc' := 3) (lv' := [(0, .ref 0)]) (st' := [.ref 9]) (hp' := jh_x0) (dc := 1) (ds := 16) (l1 := 11) (l2 := 0) (val := .null) (ty := .int) (df := j_df) hC j_kd_ok dl_0 rfl ⟨RX11, TX11, 16, rfl, j_has_in (c := 1) (o := 22) (by decide +kernel), j_ki11.1, j_ki11.2⟩ rfl (by rw [e0]; exact hl) hH0 hS0 (Nat.le_of_ble_eq_true rfl) (Nat.le_of_ble_eq_true rfl) (fun H1 locs1 ls1 hl1 hH1 hS1 => ?_)
  rw [e0] at hl1
  show W p l e room_1 s m #[Value.ref b] below meth c H1 locs1 _ _ (lw_Z below #[Value.ref b] s) (F0 m 3 ls1 [g 9])
  rw [gX]
  refine lv_dup hx hb dl_3 rfl ?_
  refine j_lawI hC (a := 9) (rest := [.ref (ad 9)]) jh1_run dl_4 (j := 0) (Nat.le_of_ble_eq_true rfl) (by decide +kernel) (j_has_in (c := 1) (o := 24) (by decide +kernel)) (Nat.le_of_ble_eq_true rfl) (by decide +kernel) (by decide +kernel) (Nat.le_of_ble_eq_true rfl) (show 8 + (1 + 11) + 20000 ≤ 84000 from Nat.le_of_ble_eq_true rfl) (Nat.le_of_ble_eq_true rfl) hl1.1 hH1 hS1 (show 0 + 1 + 107 ≤ 600000 from Nat.le_of_ble_eq_true rfl) (show 0 + 16 + 15926 ≤ 7302250 from Nat.le_of_ble_eq_true rfl) (fun H2 locs2 hH2 hS2 => ?_)
  show W p l e room_1 s m #[Value.ref b] below meth c H2 locs2 _ _ (lw_Z below #[Value.ref b] s) (F0 m 7 ls1 [.ref (ad 9)])
  refine lv_astore_n (lv' := [(1, .ref (ad 9)), (0, .ref b)]) hx hb dl_7 rfl hl1 (by decide) rfl (fun ls2 hl2 => ?_)
  have e1 : j_sl g [(1, .ref 9), (0, .ref 0)] = [(1, .ref (ad 9)), (0, .ref b)] := by show [(1, g 9), (0, g 0)] = _; rw [h0, gX]
  refine j_s_new (lv := [(1, .ref 9), (0, .ref 0)]) (st := []) (hp := jh1) (pc' := 11) (lv' := [(1, .ref 9), (0, .ref 0)]) (st' := [.ref 117]) (hp' := jh_x1) (dc := 1) (ds := 98) (l1 := 12) (l2 := 0) (val := .null) (ty := .int) (df := j_df) hC j_kd_ok dl_8 rfl ⟨RX12, TX12, 98, rfl, j_has_in (c := 6) (o := 95) (by decide +kernel), j_ki12.1, j_ki12.2⟩ rfl (by rw [e1]; exact hl2) hH2 hS2 (show 0 + 1 + 107 + 1 ≤ 600000 from Nat.le_of_ble_eq_true rfl) (show 0 + 16 + 15926 + 98 ≤ 7302250 from Nat.le_of_ble_eq_true rfl) (fun H3 locs3 ls3 hl3 hH3 hS3 => ?_)
  rw [e1] at hl3
  show W p l e room_1 s m #[Value.ref b] below meth c H3 locs3 _ _ (lw_Z below #[Value.ref b] s) (F0 m 11 ls3 [g 117])
  rw [gM]
  refine lv_dup hx hb dl_11 rfl ?_
  refine j_lawI hC (a := 117) (rest := [.ref (ad 117)]) jh2_run dl_12 (j := 211) (Nat.le_of_ble_eq_true rfl) (by decide +kernel) (j_has_in (c := 6) (o := 97) (by decide +kernel)) (Nat.le_of_ble_eq_true rfl) (by decide +kernel) (by decide +kernel) (Nat.le_of_ble_eq_true rfl) (show 8 + (1 + 11) + 20000 ≤ 84000 from Nat.le_of_ble_eq_true rfl) (Nat.le_of_ble_eq_true rfl) hl3.1 hH3 hS3 (show 0 + 1 + 107 + 1 + 62 ≤ 600000 from Nat.le_of_ble_eq_true rfl) (show 0 + 16 + 15926 + 98 + 15579 ≤ 7302250 from Nat.le_of_ble_eq_true rfl) (fun H4 locs4 hH4 hS4 => ?_)
  show W p l e room_1 s m #[Value.ref b] below meth c H4 locs4 _ _ (lw_Z below #[Value.ref b] s) (F0 m 15 ls3 [.ref (ad 117)])
  refine lv_astore_n (lv' := [(2, .ref (ad 117)), (1, .ref (ad 9)), (0, .ref b)]) hx hb dl_15 rfl hl3 (by decide) rfl (fun ls4 hl4 => ?_)
  refine lv_iconst (v := 0) hx hb dl_16 (by decide) ?_
  refine lv_istore_n (lv' := [(3, .int 0), (2, .ref (ad 117)), (1, .ref (ad 9)), (0, .ref b)]) hx hb dl_17 rfl hl4 (by decide) rfl (fun ls5 hl5 => ?_)
  have hl := lv_sub hl5 [3, 2, 1, 0] rfl
  exact law_at C0 hC hL (show 0 + 1 + 107 + 1 + 62 ≤ 600000 from Nat.le_of_ble_eq_true rfl) (show 0 + 16 + 15926 + 98 + 15579 ≤ 7302250 from Nat.le_of_ble_eq_true rfl) L 0 H4 locs4 ls5 j_s0 (by omega) (by omega) Inv_0 hH4 hS4 hl
