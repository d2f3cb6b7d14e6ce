/-! ROWS FILLED: Arrays.fill over ints, by induction; cells written again. -/
theorem j_nth_set {hp : List jc} {a : Nat} {c0 c : jc} (h : j_nth hp a = some c0) : j_nth (j_set c hp a) a = some c := by
  rw [j_nth_eq] at h
  rw [j_nth_eq, j_set_eq, List.getElem?_set_self (List.getElem?_eq_some_iff.mp h).1]
theorem j_set_set {α : Type} {c1 c2 : α} {hp : List α} {a : Nat} : j_set c2 (j_set c1 hp a) a = j_set c2 hp a := by
  rw [j_set_eq, j_set_eq, j_set_eq, List.set_set]
theorem j_set_same {α : Type} {c : α} {hp : List α} {a : Nat} (h : j_nth hp a = some c) : j_set c hp a = hp := by
  rw [j_nth_eq] at h
  obtain ⟨h1, h2⟩ := List.getElem?_eq_some_iff.mp h
  rw [j_set_eq, ← h2, List.set_getElem_self]
theorem j_fl_set {l : List Value} {v : Value} {i : Nat} (h : i < l.length) : j_set v (List.replicate i v ++ l.drop i) i = List.replicate (i + 1) v ++ l.drop (i + 1) := by
  rw [j_set_eq, List.set_append_right i v (by simp), List.length_replicate, Nat.sub_self, List.drop_eq_getElem_cons h, List.set_cons_zero, List.replicate_succ', List.append_assoc]
  rfl
theorem j_of32 {i : Nat} (h : i < 2147483648) : (Int32.ofNat i).toInt = (i : Int) := by
  rw [← Int32.ofInt_eq_ofNat]
  exact Int32.toInt_ofInt_of_le (by omega) (by omega)
theorem j_of32n {i : Nat} (h : i < 2147483648) : (Int32.ofNat i).toNatClampNeg = i := by
  show (Int32.ofNat i).toInt.toNat = i
  rw [j_of32 h]
  omega
theorem j_of32s {i : Nat} (h : i + 1 < 2147483648) : Int32.ofNat i + Int32.ofInt 1 = Int32.ofNat (i + 1) := by
  apply Int32.toInt_inj.mp
  rw [jo_add (n := 1) (by decide) (by rw [j_of32 (by omega)]; omega) (by rw [j_of32 (by omega)]; omega), j_of32 (by omega), j_of32 (by omega)]
  omega
theorem j_fl_ok {hp : List jc} {a i : Nat} {l : List Value} (h9 : 9 ≤ a) (h : j_nth hp a = some (true, 0, l)) (hi : i < l.length) (hL : l.length < 2147483648) : j_aok hp a 0 (Int32.ofNat i) = true := by
  unfold j_aok j_at
  rw [h, Nat.ble_eq_true_of_le h9]
  have hn : ¬ Int32.ofNat i < 0 := fun z => by
    have := jk_lt.mp z
    rw [j_of32 (by omega), show (0 : Int32).toInt = 0 from by decide] at this
    omega
  show (if Int32.ofNat i < 0 then false else Nat.blt (Int32.ofNat i).toNatClampNeg l.length) = true
  rw [if_neg hn, j_of32n (by omega)]
  exact Nat.ble_eq_true_of_le hi
theorem jE_31_0 : j_F 31 0 = some (.iconst 0, 1, 0, 0, .null, .int) := by decide +kernel
theorem jE_31_1 : j_F 31 1 = some (.istore_n 2, 1, 0, 0, .null, .int) := by decide +kernel
theorem jE_31_2 : j_F 31 2 = some (.aload_n 0, 1, 0, 0, .null, .int) := by decide +kernel
theorem jE_31_3 : j_F 31 3 = some (.arraylength, 1, 0, 0, .null, .int) := by decide +kernel
theorem jE_31_4 : j_F 31 4 = some (.istore_n 3, 1, 0, 0, .null, .int) := by decide +kernel
theorem jE_31_5 : j_F 31 5 = some (.iload_n 2, 1, 0, 0, .null, .int) := by decide +kernel
theorem jE_31_6 : j_F 31 6 = some (.iload_n 3, 1, 0, 0, .null, .int) := by decide +kernel
theorem jE_31_7 : j_F 31 7 = some (.if_icmp .ge 13, 3, 20, 0, .null, .int) := by decide +kernel
theorem jE_31_10 : j_F 31 10 = some (.aload_n 0, 1, 0, 0, .null, .int) := by decide +kernel
theorem jE_31_11 : j_F 31 11 = some (.iload_n 2, 1, 0, 0, .null, .int) := by decide +kernel
theorem jE_31_12 : j_F 31 12 = some (.iload_n 1, 1, 0, 0, .null, .int) := by decide +kernel
theorem jE_31_13 : j_F 31 13 = some (.iastore, 1, 0, 0, .null, .int) := by decide +kernel
theorem jE_31_14 : j_F 31 14 = some (.iinc 2 1, 3, 0, 0, .null, .int) := by decide +kernel
theorem jE_31_17 : j_F 31 17 = some (.goto (-12), 3, 5, 0, .null, .int) := by decide +kernel
theorem jE_31_20 : j_F 31 20 = some (.return_, 1, 0, 0, .null, .int) := by decide +kernel
theorem j_fl_lp {hp0 : List jc} {a fr lo c s n : Nat} {v : Int32} {l : List Value} (h9 : 9 ≤ a) (h0 : j_nth hp0 a = some (true, 0, l)) (hL : l.length < 2147483640) : ∀ (d i : Nat), d + i = l.length →
    JR (n + (9 * d + 4)) 31 5 [(2, .int (Int32.ofNat i)), (3, .int (Int32.ofNat l.length)), (0, .ref a), (1, .int v)] [] (j_set (true, 0, List.replicate i (.int v) ++ l.drop i) hp0 a) c s fr lo = some (none, j_set (true, 0, List.replicate l.length (.int v)) hp0 a, c, s) := by
  intro d
  induction d with
  | zero =>
    intro i hi
    have e : i = l.length := by omega
    subst e
    refine Eq.trans (jr_s (n := n + 3) (pc2 := 6) (st2 := [.int (Int32.ofNat l.length)]) jE_31_5 rfl rfl) ?_
    refine Eq.trans (jr_s (n := n + 2) (pc2 := 7) (st2 := [.int (Int32.ofNat l.length), .int (Int32.ofNat l.length)]) jE_31_6 rfl rfl) ?_
    refine Eq.trans (jr_ic1 (n := n + 1) jE_31_7 (jk_ge_ge (Int.le_refl _))) ?_
    rw [List.drop_length, List.append_nil]
    exact jr_rr (n := n) jE_31_20
  | succ d ih =>
    intro i hi
    have hlt : i < l.length := by omega
    have hnth := j_nth_set (c := (true, 0, List.replicate i (.int v) ++ l.drop i)) h0
    have hlen : (List.replicate i (Value.int v) ++ l.drop i).length = l.length := by
      rw [List.length_append, List.length_replicate, List.length_drop]
      omega
    rw [show n + (9 * (d + 1) + 4) = (n + (9 * d + 4)) + 9 by omega]
    refine Eq.trans (jr_s (n := n + (9 * d + 4) + 8) (pc2 := 6) (lv2 := [(2, .int (Int32.ofNat i)), (3, .int (Int32.ofNat l.length)), (0, .ref a), (1, .int v)]) (st2 := [.int (Int32.ofNat i)]) jE_31_5 rfl rfl) ?_
    refine Eq.trans (jr_s (n := n + (9 * d + 4) + 7) (pc2 := 7) (lv2 := [(2, .int (Int32.ofNat i)), (3, .int (Int32.ofNat l.length)), (0, .ref a), (1, .int v)]) (st2 := [.int (Int32.ofNat l.length), .int (Int32.ofNat i)]) jE_31_6 rfl rfl) ?_
    refine Eq.trans (jr_ic0 (n := n + (9 * d + 4) + 6) jE_31_7 (jk_ge_lt (by rw [j_of32 (by omega), j_of32 (by omega)]; omega))) ?_
    refine Eq.trans (jr_s (n := n + (9 * d + 4) + 5) (pc2 := 11) (lv2 := [(2, .int (Int32.ofNat i)), (3, .int (Int32.ofNat l.length)), (0, .ref a), (1, .int v)]) (st2 := [.ref a]) jE_31_10 rfl rfl) ?_
    refine Eq.trans (jr_s (n := n + (9 * d + 4) + 4) (pc2 := 12) (lv2 := [(2, .int (Int32.ofNat i)), (3, .int (Int32.ofNat l.length)), (0, .ref a), (1, .int v)]) (st2 := [.int (Int32.ofNat i), .ref a]) jE_31_11 rfl rfl) ?_
    refine Eq.trans (jr_s (n := n + (9 * d + 4) + 3) (pc2 := 13) (lv2 := [(2, .int (Int32.ofNat i)), (3, .int (Int32.ofNat l.length)), (0, .ref a), (1, .int v)]) (st2 := [.int v, .int (Int32.ofNat i), .ref a]) jE_31_12 rfl rfl) ?_
    refine Eq.trans (jr_sti (n := n + (9 * d + 4) + 2) (q := i) jE_31_13 (j_fl_ok h9 hnth (by rw [hlen]; exact hlt) (by rw [hlen]; omega)) (j_of32n (by omega))) ?_
    have e1 : j_stf (j_set (true, 0, List.replicate i (Value.int v) ++ l.drop i) hp0 a) a i (.int v) = j_set (true, 0, List.replicate (i + 1) (.int v) ++ l.drop (i + 1)) hp0 a := by
      unfold j_stf
      rw [hnth]
      show j_set (true, 0, j_set (.int v) (List.replicate i (.int v) ++ l.drop i) i) (j_set _ hp0 a) a = _
      rw [j_set_set, j_fl_set hlt]
    rw [e1]
    refine Eq.trans (jr_s (n := n + (9 * d + 4) + 1) (pc2 := 17) (lv2 := [(2, .int (Int32.ofNat (i + 1))), (3, .int (Int32.ofNat l.length)), (0, .ref a), (1, .int v)]) (st2 := []) jE_31_14 rfl (by rw [← j_of32s (i := i) (by omega)]; rfl)) ?_
    refine Eq.trans (jr_s (n := n + (9 * d + 4)) (pc2 := 5) (lv2 := [(2, .int (Int32.ofNat (i + 1))), (3, .int (Int32.ofNat l.length)), (0, .ref a), (1, .int v)]) (st2 := []) jE_31_17 rfl rfl) ?_
    exact ih (i + 1) (by omega)
theorem j_fill {hp0 : List jc} {a fr lo c s n : Nat} {v : Int32} {l : List Value} (h9 : 9 ≤ a) (h0 : j_nth hp0 a = some (true, 0, l)) (hL : l.length < 2147483640) (hp : 0 < l.length) :
    JR (n + (9 * l.length + 9)) 31 0 (lv_args 0 [.ref a, .int v]) [] hp0 c s fr lo = some (none, j_set (true, 0, List.replicate l.length (.int v)) hp0 a, c, s) := by
  have hal : j_al hp0 a = some (Int32.ofNat l.length) := by unfold j_al; rw [h0]
  obtain ⟨d, hd⟩ : ∃ d, l.length = d + 1 := ⟨l.length - 1, by omega⟩
  have hn : n + (9 * l.length + 9) = (n + (9 * d + 4)) + 14 := by omega
  rw [hn]
  refine Eq.trans (jr_s (n := n + (9 * d + 4) + 13) (pc2 := 1) (lv2 := [(0, .ref a), (1, .int v)]) (st2 := [.int 0]) jE_31_0 rfl rfl) ?_
  refine Eq.trans (jr_s (n := n + (9 * d + 4) + 12) (pc2 := 2) (lv2 := [(2, .int 0), (0, .ref a), (1, .int v)]) (st2 := []) jE_31_1 rfl rfl) ?_
  refine Eq.trans (jr_s (n := n + (9 * d + 4) + 11) (pc2 := 3) (lv2 := [(2, .int 0), (0, .ref a), (1, .int v)]) (st2 := [.ref a]) jE_31_2 rfl rfl) ?_
  refine Eq.trans (jr_al (n := n + (9 * d + 4) + 10) (v := Int32.ofNat l.length) jE_31_3 hal) ?_
  refine Eq.trans (jr_s (n := n + (9 * d + 4) + 9) (pc2 := 5) (lv2 := [(3, .int (Int32.ofNat l.length)), (2, .int 0), (0, .ref a), (1, .int v)]) (st2 := []) jE_31_4 rfl rfl) ?_
  refine Eq.trans (jr_s (n := n + (9 * d + 4) + 8) (pc2 := 6) (lv2 := [(3, .int (Int32.ofNat l.length)), (2, .int 0), (0, .ref a), (1, .int v)]) (st2 := [.int 0]) jE_31_5 rfl rfl) ?_
  refine Eq.trans (jr_s (n := n + (9 * d + 4) + 7) (pc2 := 7) (lv2 := [(3, .int (Int32.ofNat l.length)), (2, .int 0), (0, .ref a), (1, .int v)]) (st2 := [.int (Int32.ofNat l.length), .int 0]) jE_31_6 rfl rfl) ?_
  refine Eq.trans (jr_ic0 (n := n + (9 * d + 4) + 6) jE_31_7 (jk_ge_lt (by rw [j_of32 (by omega), show (0 : Int32).toInt = 0 from by decide]; omega))) ?_
  refine Eq.trans (jr_s (n := n + (9 * d + 4) + 5) (pc2 := 11) (lv2 := [(3, .int (Int32.ofNat l.length)), (2, .int 0), (0, .ref a), (1, .int v)]) (st2 := [.ref a]) jE_31_10 rfl rfl) ?_
  refine Eq.trans (jr_s (n := n + (9 * d + 4) + 4) (pc2 := 12) (lv2 := [(3, .int (Int32.ofNat l.length)), (2, .int 0), (0, .ref a), (1, .int v)]) (st2 := [.int 0, .ref a]) jE_31_11 rfl rfl) ?_
  refine Eq.trans (jr_s (n := n + (9 * d + 4) + 3) (pc2 := 13) (lv2 := [(3, .int (Int32.ofNat l.length)), (2, .int 0), (0, .ref a), (1, .int v)]) (st2 := [.int v, .int 0, .ref a]) jE_31_12 rfl rfl) ?_
  refine Eq.trans (jr_sti (n := n + (9 * d + 4) + 2) (i := Int32.ofNat 0) (q := 0) jE_31_13 (j_fl_ok h9 h0 hp (by omega)) rfl) ?_
  have e1 : j_stf hp0 a 0 (.int v) = j_set (true, 0, List.replicate 1 (.int v) ++ l.drop 1) hp0 a := by
    unfold j_stf
    rw [h0]
    show j_set (true, 0, j_set (.int v) l 0) hp0 a = _
    have := j_fl_set (v := .int v) hp
    rw [List.replicate_zero, List.nil_append, List.drop_zero] at this
    rw [this]
  rw [e1]
  refine Eq.trans (jr_s (n := n + (9 * d + 4) + 1) (pc2 := 17) (lv2 := [(2, .int (Int32.ofNat 1)), (3, .int (Int32.ofNat l.length)), (0, .ref a), (1, .int v)]) (st2 := []) jE_31_14 rfl rfl) ?_
  refine Eq.trans (jr_s (n := n + (9 * d + 4)) (pc2 := 5) (lv2 := [(2, .int (Int32.ofNat 1)), (3, .int (Int32.ofNat l.length)), (0, .ref a), (1, .int v)]) (st2 := []) jE_31_17 rfl rfl) ?_
  exact j_fl_lp h9 h0 hL d 1 (by omega)
/-- a row of zeros filled with zeros -/
theorem j_fill0 {hp0 : List jc} {a fr lo m L : Nat} {v : Int32} (h9 : Nat.ble 9 a = true) (h0 : j_nth hp0 a = some (true, 0, List.replicate (L + 1) (.int v))) (hL : Nat.blt (L + 1) 2147483640 = true) (hm : 9 * (L + 1) + 9 ≤ m) :
    JR m 31 0 (lv_args 0 [.ref a, .int v]) [] hp0 0 0 fr lo = some (none, hp0, 0, 0) := by
  obtain ⟨n, rfl⟩ : ∃ n, m = n + (9 * (L + 1) + 9) := ⟨m - (9 * (L + 1) + 9), by omega⟩
  have h := j_fill (fr := fr) (lo := lo) (c := 0) (s := 0) (n := n) (v := v) (Nat.le_of_ble_eq_true h9) h0 (by rw [List.length_replicate]; exact Nat.le_of_ble_eq_true hL) (by rw [List.length_replicate]; exact Nat.succ_pos L)
  rw [List.length_replicate, j_set_same h0] at h
  exact h
