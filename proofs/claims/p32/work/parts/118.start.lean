/-! THE START: the entry of the law, as the small machine sees it. -/
def j_next : List Int32 := [2, (-1), 1, (-1), (-1), 2, (-1), 1, (-1), (-1), (-1), 1, (-1), 3, 0, 4, (-1), 3, (-1), (-1), (-1), 3, (-1), (-1), 0]
def j_by0 : List Int32 := [119, 104, 111, 32, 32, 32, 119, 104, 97, 116, 32, 32, 119, 104, 101, 110, 32, 32, 108, 105, 107, 101, 32, 32, 108, 105, 109, 105, 116, 32, 112, 97, 114, 116, 121, 32, 119, 105, 115, 104, 32, 32, 112, 101, 97, 99, 101, 32, 106, 117, 100, 103, 101, 100, 118, 111, 116, 101, 115, 32, 119, 111, 114, 116, 104, 32, 102, 111, 114, 98, 105, 100, 102, 114, 101, 101, 32, 32, 97, 110, 121, 32, 32, 32, 97, 110, 100, 32, 32, 32, 111, 114, 32, 32, 32, 32, 110, 111, 116, 32, 32, 32, 117, 110, 108, 101, 115, 115]
def j_by1 : List Int32 := [119, 104, 111, 32, 32, 32, 119, 104, 97, 116, 32, 32, 119, 104, 101, 110, 32, 32, 108, 105, 107, 101, 32, 32, 108, 105, 109, 105, 116, 32, 112, 97, 114, 116, 121, 32, 119, 105, 115, 104, 32, 32, 112, 101, 97, 99, 101, 32, 106, 117, 100, 103, 101, 100, 118, 111, 116, 101, 115, 32, 119, 111, 114, 116, 104, 32, 102, 111, 114, 98, 105, 100, 102, 114, 101, 101, 32, 32, 97, 110, 121, 32, 32, 32, 97, 110, 100, 32, 32, 32, 111, 114, 32, 32, 32, 32, 110, 111, 116, 32, 32, 32, 117, 110, 108, 101, 115, 115]
def j_by2 : List Int32 := [102, 105, 114, 115, 116, 32, 108, 97, 115, 116, 32, 32, 111, 102, 116, 101, 110, 32, 116, 111, 116, 97, 108, 32, 109, 111, 115, 116, 32, 32, 108, 101, 97, 115, 116, 32, 97, 108, 108, 32, 32, 32, 99, 97, 115, 101, 32, 32, 119, 104, 111, 32, 32, 32, 119, 104, 97, 116, 32, 32, 119, 104, 101, 110, 32, 32, 108, 97, 119, 32, 32, 32, 111, 116, 104, 101, 114, 32, 98, 111, 114, 110, 101, 32, 109, 105, 110, 32, 32, 32, 109, 97, 120, 32, 32, 32, 97, 110, 100, 32, 32, 32, 111, 114, 32, 32, 32, 32, 110, 111, 116, 32, 32, 32]
def j_ints (l : List Int32) : List Value := l.map .int
def j_hp0 : List jc := [(false, 97, []), (true, 0, j_ints j_next), (false, 99, [.ref 5, .int 0]), (false, 99, [.ref 6, .int 0]), (false, 99, [.ref 7, .int 0]), (true, 5, j_ints j_by0), (true, 5, j_ints j_by1), (true, 5, j_ints j_by2), (false, 98, [])]
theorem j_one {P : Nat → Prop} (h : P 0) : ∀ q, q < 1 → P q := fun q hq => by
  cases q with
  | zero => exact h
  | succ n => exact absurd hq (by omega)
theorem j_isRef {args : Array Value} {s : State} {t : Term} (h : (Jvm.Cond.isRef t).before args s = true) : t.eval args s none [] s = some .null ∨ ∃ a, t.eval args s none [] s = some (.ref a) := by
  cases hv : t.eval args s none [] s with
  | none => simp [Cond.before, Cond.holds, Cond.value, hv] at h
  | some v => cases v <;> simp_all [Cond.before, Cond.holds, Cond.value]
theorem j_ints_at {l : List Int32} {j : Nat} {v : Value} (h : (j_ints l)[j]? = some v) : j < l.length ∧ v = .int (l.getD j 0) := by
  unfold j_ints at h
  rw [List.getElem?_map] at h
  cases hq : l[j]? with
  | none => rw [hq] at h; cases h
  | some x =>
    rw [hq] at h
    cases h
    exact ⟨(List.getElem?_eq_some_iff.mp hq).1, by simp [List.getD_eq_getElem?_getD, hq]⟩
theorem j_old_arr {g : Nat → Value} {ad : Nat → Nat} {B : Nat} {D : va_G} {cA : Nat → ClassId} {cl : List vw_C} {U : State} {H : Heap} {k t : Nat} {l : List Int32} (hk : k < 8) (h : ∃ cell : Cell, H[ad k]? = some cell ∧ U.isArrayOf cell (j_ty t) ∧ cell.vm ≠ .unknown ∧ l.length ≤ cell.slots.size ∧ cell.slots.size.toInt32 = Int32.ofNat l.length ∧ ∀ j : Nat, j < l.length → cell.slots[j]? = some (.int (l.getD j 0))) : j_in g ad B D cA cl U H k (true, t, j_ints l) := by
  unfold j_in
  rw [if_pos (by omega)]
  refine ⟨fun _ => ⟨hk, ?_⟩, fun e => by cases e⟩
  obtain ⟨cell, h1, h2, h3, h4, h5, h6⟩ := h
  have hl : (j_ints l).length = l.length := by simp [j_ints]
  refine ⟨cell, h1, h2, h3, by show (j_ints l).length ≤ _; rw [hl]; exact h4, by show _ = Int32.ofNat (j_ints l).length; rw [hl]; exact h5, fun j v hv => ?_⟩
  obtain ⟨e1, e2⟩ := j_ints_at hv
  rw [h6 j e1, e2]
  rfl
theorem j_old_T {g : Nat → Value} {ad : Nat → Nat} {B : Nat} {D : va_G} {cA : Nat → ClassId} {cl : List vw_C} {U : State} {H : Heap} {A : Nat → Prop} {k t : Nat} {l : List Int32} (hk : k < 8) (h : va_T (j_ty t) (ad k) l.length (fun j => .int (l.getD j 0)) A U H) : j_in g ad B D cA cl U H k (true, t, j_ints l) := by
  obtain ⟨cell, h1, h2, h3, h4, h5, h6, -⟩ := h
  exact j_old_arr hk ⟨cell, h1, h2, h3, h4, h5, h6⟩
theorem j_old_S {g : Nat → Value} {ad : Nat → Nat} {B : Nat} {D : va_G} {cA : Nat → ClassId} {cl : List vw_C} {U : State} {H : Heap} {k v : Nat} (hk : k < 8) (hv : g v = .ref (ad v)) (h0 : va_O "java/lang/String" (ad k) (j_A B) U H) (h1 : va_OF "java/lang/String" "coder" "B" (.int 0) (ad k) (j_A B) U H) (h2 : va_OF "java/lang/String" "value" "[B" (.ref (ad v)) (ad k) (j_A B) U H) : j_in g ad B D cA cl U H k (false, 99, [.ref v, .int 0]) := by
  unfold j_in
  rw [if_pos (by omega)]
  refine ⟨fun e => (by cases e), fun _ _ => ⟨hk, ?_, fun w hw => ?_, fun w hw => ?_, rfl⟩⟩
  · obtain ⟨cell, q1, q2, q3, -⟩ := h0
    exact ⟨cell, q1, q2, q3⟩
  · cases hw
    show va_OF _ _ _ (g v) _ _ _ _
    rw [hv]
    exact h2
  · cases hw
    exact h1
theorem j_str0 {args : Array Value} {s : State} {A : Nat → Prop} (hg : (Jvm.Cond.and given_1 narrow_1).before args s = true) (hA : ∀ a : Nat, a < s.heap.size → ¬ A a) : ∃ kq vq : Nat, (Term.string "HundredWords$TongueReader" 15).eval args s none [] s = some (.ref kq) ∧ va_O "java/lang/String" kq A s s.heap ∧ va_OF "java/lang/String" "coder" "B" (.int 0) kq A s s.heap ∧ va_OF "java/lang/String" "value" "[B" (.ref vq) kq A s s.heap ∧ va_T .byte vq j_by0.length (fun j => .int (j_by0.getD j 0)) A s s.heap := by
  have hs := flat_of_before _ hg
  have hm0 : ∀ j, j < 108 → (flatC (Jvm.Cond.and given_1 narrow_1))[41 + j]? = some (Cond.eq (.elem (.field (Term.string "HundredWords$TongueReader" 15) "java/lang/String" "value" "[B") (.int (Int32.ofNat j))) (.int (j_by0.getD j 0))) := by decide +kernel
  have hm : ∀ j, j < 108 → (Cond.eq (.elem (.field (Term.string "HundredWords$TongueReader" 15) "java/lang/String" "value" "[B") (.int (Int32.ofNat j))) (.int (j_by0.getD j 0))) ∈ flatC (Jvm.Cond.and given_1 narrow_1) := fun j hj => List.mem_of_getElem? (hm0 j hj)
  obtain ⟨adK, adV, h1, h2⟩ := vk_Sof (args := args) (s := s) (N := 1) (tm := fun _ => (Term.string "HundredWords$TongueReader" 15)) (len := [108]) (byt := [j_by0]) (A := A) (j_one (by decide))
    (j_one (hs _ (by decide +kernel))) (j_one (hs _ (by decide +kernel))) (j_one (hs _ (by decide +kernel))) (j_one (hs _ (by decide +kernel)))
    (j_one (fun j hj => hs _ (hm j hj))) (fun x y hx hy hn => absurd (by omega) hn) hA
  obtain ⟨q1, q2, q3, q4⟩ := h1.1 0 (by omega)
  exact ⟨adK 0, adV 0, h2 0 (by omega), q1, q2, q3, q4⟩
theorem j_str1 {args : Array Value} {s : State} {A : Nat → Prop} (hg : (Jvm.Cond.and given_1 narrow_1).before args s = true) (hA : ∀ a : Nat, a < s.heap.size → ¬ A a) : ∃ kq vq : Nat, (Term.string "HundredWords$LawReader" 17).eval args s none [] s = some (.ref kq) ∧ va_O "java/lang/String" kq A s s.heap ∧ va_OF "java/lang/String" "coder" "B" (.int 0) kq A s s.heap ∧ va_OF "java/lang/String" "value" "[B" (.ref vq) kq A s s.heap ∧ va_T .byte vq j_by1.length (fun j => .int (j_by1.getD j 0)) A s s.heap := by
  have hs := flat_of_before _ hg
  have hm0 : ∀ j, j < 108 → (flatC (Jvm.Cond.and given_1 narrow_1))[153 + j]? = some (Cond.eq (.elem (.field (Term.string "HundredWords$LawReader" 17) "java/lang/String" "value" "[B") (.int (Int32.ofNat j))) (.int (j_by1.getD j 0))) := by decide +kernel
  have hm : ∀ j, j < 108 → (Cond.eq (.elem (.field (Term.string "HundredWords$LawReader" 17) "java/lang/String" "value" "[B") (.int (Int32.ofNat j))) (.int (j_by1.getD j 0))) ∈ flatC (Jvm.Cond.and given_1 narrow_1) := fun j hj => List.mem_of_getElem? (hm0 j hj)
  obtain ⟨adK, adV, h1, h2⟩ := vk_Sof (args := args) (s := s) (N := 1) (tm := fun _ => (Term.string "HundredWords$LawReader" 17)) (len := [108]) (byt := [j_by1]) (A := A) (j_one (by decide))
    (j_one (hs _ (by decide +kernel))) (j_one (hs _ (by decide +kernel))) (j_one (hs _ (by decide +kernel))) (j_one (hs _ (by decide +kernel)))
    (j_one (fun j hj => hs _ (hm j hj))) (fun x y hx hy hn => absurd (by omega) hn) hA
  obtain ⟨q1, q2, q3, q4⟩ := h1.1 0 (by omega)
  exact ⟨adK 0, adV 0, h2 0 (by omega), q1, q2, q3, q4⟩
theorem j_str2 {args : Array Value} {s : State} {A : Nat → Prop} (hg : (Jvm.Cond.and given_1 narrow_1).before args s = true) (hA : ∀ a : Nat, a < s.heap.size → ¬ A a) : ∃ kq vq : Nat, (Term.string "HundredWords$Question" 15).eval args s none [] s = some (.ref kq) ∧ va_O "java/lang/String" kq A s s.heap ∧ va_OF "java/lang/String" "coder" "B" (.int 0) kq A s s.heap ∧ va_OF "java/lang/String" "value" "[B" (.ref vq) kq A s s.heap ∧ va_T .byte vq j_by2.length (fun j => .int (j_by2.getD j 0)) A s s.heap := by
  have hs := flat_of_before _ hg
  have hm0 : ∀ j, j < 114 → (flatC (Jvm.Cond.and given_1 narrow_1))[266 + j]? = some (Cond.eq (.elem (.field (Term.string "HundredWords$Question" 15) "java/lang/String" "value" "[B") (.int (Int32.ofNat j))) (.int (j_by2.getD j 0))) := by decide +kernel
  have hm : ∀ j, j < 114 → (Cond.eq (.elem (.field (Term.string "HundredWords$Question" 15) "java/lang/String" "value" "[B") (.int (Int32.ofNat j))) (.int (j_by2.getD j 0))) ∈ flatC (Jvm.Cond.and given_1 narrow_1) := fun j hj => List.mem_of_getElem? (hm0 j hj)
  obtain ⟨adK, adV, h1, h2⟩ := vk_Sof (args := args) (s := s) (N := 1) (tm := fun _ => (Term.string "HundredWords$Question" 15)) (len := [114]) (byt := [j_by2]) (A := A) (j_one (by decide))
    (j_one (hs _ (by decide +kernel))) (j_one (hs _ (by decide +kernel))) (j_one (hs _ (by decide +kernel))) (j_one (hs _ (by decide +kernel)))
    (j_one (fun j hj => hs _ (hm j hj))) (fun x y hx hy hn => absurd (by omega) hn) hA
  obtain ⟨q1, q2, q3, q4⟩ := h1.1 0 (by omega)
  exact ⟨adK 0, adV 0, h2 0 (by omega), q1, q2, q3, q4⟩
theorem j_nextT {args : Array Value} {s : State} {A : Nat → Prop} (hg : (Jvm.Cond.and given_1 narrow_1).before args s = true) (hA : ∀ a : Nat, a < s.heap.size → ¬ A a) : ∃ tq : Nat, (Term.static "HundredWords$Row" "NEXT" "[I").eval args s none [] s = some (.ref tq) ∧ va_T .int tq j_next.length (fun j => .int (j_next.getD j 0)) A s s.heap := by
  have hs := flat_of_before _ hg
  have hm0 : ∀ j, j < 25 → (flatC (Jvm.Cond.and given_1 narrow_1))[12 + j]? = some (Cond.eq (.elem (.static "HundredWords$Row" "NEXT" "[I") (.int (Int32.ofNat j))) (.int (j_next.getD j 0))) := by decide +kernel
  have hm : ∀ j, j < 25 → (Cond.eq (.elem (.static "HundredWords$Row" "NEXT" "[I") (.int (Int32.ofNat j))) (.int (j_next.getD j 0))) ∈ flatC (Jvm.Cond.and given_1 narrow_1) := fun j hj => List.mem_of_getElem? (hm0 j hj)
  exact va_Tof (N := 25) (f := fun j => .int (j_next.getD j 0)) (by decide) (hs _ (by decide +kernel)) (va_eqt (hs (Cond.eq (.length (.static "HundredWords$Row" "NEXT" "[I")) (.int (Int32.ofNat 25))) (by decide +kernel))) (fun j hj => va_eqt (hs _ (hm j hj))) hA
set_option maxHeartbeats 4000000 in
/-- the two worlds at the entry -/
theorem j_start {p : Program} {s : State} {m : MethodId} {meth : Method} {c : Code} {b L : Nat} {xs : Nat → Int32} (C0 : lw_At p s m meth c b L xs) :
    ∃ (g : Nat → Value) (ad : Nat → Nat) (D : va_G) (cA : Nat → ClassId), j_Cx g ad s.heap.size D cA vwCl j_TW j_zs j_ks "HundredWordsLaw" "law" code 4 p s m #[.ref b] meth c ∧ j_H g ad s.heap.size D cA vwCl s s.heap j_hp0 ∧ g 0 = .ref b := by
  obtain ⟨hx, hb, hr, hml, hown, hts, hX, hbl, hlocks, hgv⟩ := C0
  have htw : ∀ x ∈ j_TW, x.before #[.ref b] s = true := fun x hx => hts x (j_TW_tbl x hx)
  have hA : ∀ a : Nat, a < s.heap.size → ¬ j_A s.heap.size a := fun a h1 h2 => absurd h1 (Nat.not_lt.mpr h2)
  have hs := flat_of_before _ hgv
  have h1 : ∀ ci : Nat, ∃ q : ClassId × (Nat → Nat), ∀ r : vw_C, vwCl[ci]? = some r → u_Kn s r.1 r.2.1 r.2.2 q.1 q.2 := by
    intro ci
    cases hr : vwCl[ci]? with
    | none => exact ⟨(0, fun _ => 0), fun r h => by cases h⟩
    | some r =>
      obtain ⟨C, T, N⟩ := r
      obtain ⟨cC, iS, h⟩ := u_known htw (j_kd_ok.1 ci C T N hr).1 (htw _ (j_ki_ok ci C T N hr).1)
      exact ⟨(cC, iS), fun r h2 => by cases h2; exact h⟩
  obtain ⟨fD, hfD⟩ := Classical.axiomOfChoice h1
  have prim : ∀ ty : FieldType, (∀ n, ty ≠ .object n) → (Cond.arrayClass ty).before #[.ref b] s = true → ∃ cA : ClassId, ArrOfT s cA ty ∧ va_RA s cA ty := by
    intro ty hn h
    obtain ⟨cA, kA, comp, q1, q2, q3⟩ := Cond.arrayClass_spec h
    refine ⟨cA, fun n z => ⟨fun k h => (by cases h), kA, q2, comp, q3⟩, ?_⟩
    cases ty with
    | object n => exact absurd rfl (hn n)
    | _ => exact q1
  have h2 : ∀ t : Nat, ∃ cA : ClassId, t < 6 → ArrOfT s cA (j_ty t) ∧ va_RA s cA (j_ty t) := by
    intro t
    match t with
    | 0 => obtain ⟨cA, h⟩ := prim .int (fun n h => by cases h) (hts _ (j_ch_in 1 _ (List.mem_of_getElem? (i := 79) rfl))); exact ⟨cA, fun _ => h⟩
    | 1 => obtain ⟨cA, h⟩ := prim .long (fun n h => by cases h) (hts _ (j_ch_in 1 _ (List.mem_of_getElem? (i := 203) rfl))); exact ⟨cA, fun _ => h⟩
    | 2 => obtain ⟨cA, h⟩ := prim .char (fun n h => by cases h) (hts _ (j_ch_in 7 _ (List.mem_of_getElem? (i := 156) rfl))); exact ⟨cA, fun _ => h⟩
    | 3 => obtain ⟨cA, h⟩ := prim .boolean (fun n h => by cases h) (hts _ (j_ch_in 2 _ (List.mem_of_getElem? (i := 3) rfl))); exact ⟨cA, fun _ => h⟩
    | 4 =>
      have ho : (Cond.arrayOver (.object "HundredWords$Row")).before #[.ref b] s = true := hts _ (j_ch_in 2 _ (List.mem_of_getElem? (i := 190) rfl))
      obtain ⟨comp, cA, kA, q1, -, q2, q3, q4⟩ := Cond.arrayOver_spec ho
      exact ⟨cA, fun _ => ⟨fun n z => ⟨fun k h => (by cases h), kA, q2, comp, q3⟩, kA, comp, q2, q3, q1, q4⟩⟩
    | 5 => obtain ⟨cA, h⟩ := prim .byte (fun n h => by cases h) (hts _ (j_ch_in 1 _ (List.mem_of_getElem? (i := 145) rfl))); exact ⟨cA, fun _ => h⟩
    | _ + 6 => exact ⟨0, fun h => absurd h (by omega)⟩
  obtain ⟨cA, hcA⟩ := Classical.axiomOfChoice h2
  obtain ⟨k0, v0, a01, a02, a03, a04, a05⟩ := j_str0 (A := j_A s.heap.size) hgv hA
  obtain ⟨k1, v1, a11, a12, a13, a14, a15⟩ := j_str1 (A := j_A s.heap.size) hgv hA
  obtain ⟨k2, v2, a21, a22, a23, a24, a25⟩ := j_str2 (A := j_A s.heap.size) hgv hA
  obtain ⟨tN, n1, n2⟩ := j_nextT (A := j_A s.heap.size) hgv hA
  have hZ1 := va_Zof (A := j_A s.heap.size) (hts (Cond.laysStatic "HundredWords$Row" "NEXT" "[I") (j_ch_in 4 _ (List.mem_of_getElem? (i := 8) rfl))) (hts _ (j_ch_in 1 _ (List.mem_of_getElem? (i := 12) rfl))) n1 hA
  have hZ2 := va_Zof (A := j_A s.heap.size) (hts (Cond.laysStatic "java/lang/String" "COMPACT_STRINGS" "Z") (j_ch_in 1 _ (List.mem_of_getElem? (i := 99) rfl))) (hts _ (j_ch_in 1 _ (List.mem_of_getElem? (i := 4) rfl))) (va_eqi (hs (Cond.eq (.static "java/lang/String" "COMPACT_STRINGS" "Z") (.int 1)) (by decide +kernel))) hA
  have hfm : ∃ fm : Value, (fm = .null ∨ ∃ a, fm = .ref a) ∧ (Term.static "jdk/internal/util/Preconditions" "SIOOBE_FORMATTER" "Ljava/util/function/BiFunction;").eval #[.ref b] s none [] s = some fm := by
    rcases j_isRef (hs (Jvm.Cond.isRef (.static "jdk/internal/util/Preconditions" "SIOOBE_FORMATTER" "Ljava/util/function/BiFunction;")) (by decide +kernel)) with h | ⟨a, h⟩
    · exact ⟨_, Or.inl rfl, h⟩
    · exact ⟨_, Or.inr ⟨a, rfl⟩, h⟩
  obtain ⟨fm, hfm1, hfm2⟩ := hfm
  have hZ3 := va_Zof (A := j_A s.heap.size) (hts (Cond.laysStatic "jdk/internal/util/Preconditions" "SIOOBE_FORMATTER" "Ljava/util/function/BiFunction;") (j_ch_in 1 _ (List.mem_of_getElem? (i := 115) rfl))) (hts _ (j_ch_in 1 _ (List.mem_of_getElem? (i := 6) rfl))) hfm2 hA
  have lt : ∀ {n : String} {d : String} {v : Value} {q : Nat}, va_OF "java/lang/String" n d v q (j_A s.heap.size) s s.heap → q < s.heap.size := fun h => by
    obtain ⟨_, _, _, _, cell, _, _, h3, _⟩ := h
    exact (Array.getElem?_eq_some_iff.mp h3).1
  have ltT : ∀ {ty : FieldType} {q N : Nat} {f : Nat → Value}, va_T ty q N f (j_A s.heap.size) s s.heap → q < s.heap.size := fun h => by
    obtain ⟨cell, h3, _⟩ := h
    exact (Array.getElem?_eq_some_iff.mp h3).1
  obtain ⟨ad, had⟩ : ∃ ad : Nat → Nat, ad = fun k => match k with | 0 => b | 1 => tN | 2 => k0 | 3 => k1 | 4 => k2 | 5 => v0 | 6 => v1 | 7 => v2 | k => s.heap.size + (k - 9) := ⟨_, rfl⟩
  obtain ⟨g, hg⟩ : ∃ g : Nat → Value, g = fun k => if k = 8 then fm else .ref (ad k) := ⟨_, rfl⟩
  have hgk : ∀ k, k ≠ 8 → g k = .ref (ad k) := fun k h => by rw [hg]; simp [h]
  have hG : j_G g ad s.heap.size := by
    refine ⟨hgk, by rw [hg]; simpa using hfm1, fun k hk => ?_, fun k hk => ?_⟩
    · rw [had]
      match k, hk with
      | k + 9, _ => rfl
    · rw [had]
      match k, hk with
      | 0, _ => exact hbl
      | 1, _ => exact ltT n2
      | 2, _ => exact lt a03
      | 3, _ => exact lt a13
      | 4, _ => exact lt a23
      | 5, _ => exact ltT a05
      | 6, _ => exact ltT a15
      | 7, _ => exact ltT a25
  refine ⟨g, ad, (fun ci => (fD ci).1, fun ci => (fD ci).2), cA, ⟨hG, hx, hb, hml, hown, htw, hlocks, fun h => absurd h (by decide), ⟨fun ci q hq => hfD ci q hq, fun k q hk => ?_⟩, ?_, ⟨?_, ?_⟩, Nat.le_refl _⟩, ?_, by rw [hgk 0 (by decide), had]; rfl⟩
  · have hk6 : k < 6 := (List.getElem?_eq_some_iff.mp hk).1
    rw [j_tys_at cA hk6] at hk
    cases hk
    exact hcA k hk6
  · intro q hq
    simp only [j_zs, List.mem_cons, List.not_mem_nil, or_false] at hq
    rcases hq with rfl | rfl | rfl
    · show va_Z _ _ _ (g 1) _ _ _
      rw [hgk 1 (by decide), had]
      exact hZ1
    · exact hZ2
    · show va_Z _ _ _ (g 8) _ _ _
      rw [hg]
      exact hZ3
  · intro q hq
    simp only [j_ks, List.mem_cons, List.not_mem_nil, or_false] at hq
    rcases hq with rfl | rfl | rfl
    · exact ⟨k0, by show g 2 = _; rw [hgk 2 (by decide), had]; rfl, vk_R.of (A := #[.ref b]) (hts _ (j_ch_in 1 _ (List.mem_of_getElem? (i := 86) rfl))) a01⟩
    · exact ⟨k1, by show g 3 = _; rw [hgk 3 (by decide), had]; rfl, vk_R.of (A := #[.ref b]) (hts _ (j_ch_in 1 _ (List.mem_of_getElem? (i := 152) rfl))) a11⟩
    · exact ⟨k2, by show g 4 = _; rw [hgk 4 (by decide), had]; rfl, vk_R.of (A := #[.ref b]) (hts _ (j_ch_in 1 _ (List.mem_of_getElem? (i := 167) rfl))) a21⟩
  · intro x hx
    simp only [j_ks, List.mem_cons, List.not_mem_nil, or_false] at hx
    rcases hx with rfl | rfl | rfl | rfl | rfl | rfl | rfl | rfl
    · exact ⟨rfl, va_Nw.of rfl (A := #[.ref b]) (hts _ (j_ch_in 1 _ (List.mem_of_getElem? (i := 219) rfl)))⟩
    · exact ⟨rfl, va_Nw.of rfl (A := #[.ref b]) (hts _ (j_ch_in 4 _ (List.mem_of_getElem? (i := 98) rfl)))⟩
    · exact ⟨rfl, va_Nw.of rfl (A := #[.ref b]) (hts _ (j_ch_in 4 _ (List.mem_of_getElem? (i := 121) rfl)))⟩
    · exact ⟨rfl, va_Nw.of rfl (A := #[.ref b]) (hts _ (j_ch_in 5 _ (List.mem_of_getElem? (i := 45) rfl)))⟩
    · exact ⟨rfl, va_Nw.of rfl (A := #[.ref b]) (hts _ (j_ch_in 5 _ (List.mem_of_getElem? (i := 73) rfl)))⟩
    · exact ⟨rfl, va_Nw.of rfl (A := #[.ref b]) (hts _ (j_ch_in 6 _ (List.mem_of_getElem? (i := 15) rfl)))⟩
    · exact ⟨rfl, va_Nw.of rfl (A := #[.ref b]) (hts _ (j_ch_in 6 _ (List.mem_of_getElem? (i := 16) rfl)))⟩
    · exact ⟨rfl, va_AO.of (A := #[.ref b]) (hts _ (j_ch_in 2 _ (List.mem_of_getElem? (i := 190) rfl)))⟩
  · refine ⟨by decide, rfl, rfl, fun k d hk => ?_⟩
    match k, hk with
    | 0, hk =>
      cases hk
      unfold j_in
      exact ⟨fun e => (by cases e), fun _ e => absurd e (by decide)⟩
    | 1, hk => cases hk; exact j_old_T (t := 0) (by omega) (by rw [had]; exact n2)
    | 2, hk => cases hk; exact j_old_S (by omega) (hgk 5 (by decide)) (by rw [had]; exact a02) (by rw [had]; exact a03) (by rw [had]; exact a04)
    | 3, hk => cases hk; exact j_old_S (by omega) (hgk 6 (by decide)) (by rw [had]; exact a12) (by rw [had]; exact a13) (by rw [had]; exact a14)
    | 4, hk => cases hk; exact j_old_S (by omega) (hgk 7 (by decide)) (by rw [had]; exact a22) (by rw [had]; exact a23) (by rw [had]; exact a24)
    | 5, hk => cases hk; exact j_old_T (t := 5) (by omega) (by rw [had]; exact a05)
    | 6, hk => cases hk; exact j_old_T (t := 5) (by omega) (by rw [had]; exact a15)
    | 7, hk => cases hk; exact j_old_T (t := 5) (by omega) (by rw [had]; exact a25)
    | 8, hk =>
      cases hk
      unfold j_in
      exact ⟨fun e => (by cases e), fun _ e => absurd e (by decide)⟩
    | k + 9, hk => exact absurd (List.getElem?_eq_some_iff.mp hk).1 (by simp [j_hp0])
theorem j_W_mono {p : Program} {l : Launch} {e : Env} {R : Room} {s : State} {m : MethodId} {args : Array Value} {below : List Frame} {meth : Method} {c : Code} {H : Heap} {locs : List Loc} {cells slots : Nat} {Q Q2 : State → Prop} {g : JFrame} (h : W p l e R s m args below meth c H locs cells slots Q g) (hq : ∀ t, Q t → Q2 t) : W p l e R s m args below meth c H locs cells slots Q2 g := fun T hT X => by
  obtain ⟨t, a, b⟩ := h T hT X
  exact ⟨t, a, hq t b⟩
theorem j_obr_at {hp : List jc} {a ci : Nat} (h : j_obr hp a ci = true) : ∃ fs, hp[a]? = some (false, ci, fs) := by
  unfold j_obr at h
  rw [j_nth_eq] at h
  split at h
  · rename_i c fs hc
    rw [Bool.and_eq_true] at h
    exact ⟨fs, by rw [hc, Nat.eq_of_beq_eq_true h.1]⟩
  · cases h
/-- a call out of the law -/
theorem j_lawV {p : Program} {l : Launch} {e : Env} {R : Room} {s : State} {m : MethodId} {args : Array Value} {below : List Frame} {meth : Method} {c : Code} {H : Heap} {locs : List Loc} {cells slots : Nat} {Q : State → Prop} {g : Nat → Value} {ad : Nat → Nat} {B : Nat} {D : va_G} {cA : Nat → ClassId} {own nm : String} {cc : ByteArray} {nL : Nat}
    (hC : j_Cx g ad B D cA vwCl j_TW j_zs j_ks own nm cc nL p s m args meth c) {n i j a pc fr lo c1 s1 : Nat} {as : List Value} {rest : List Value} {v : Option Value} {hp hp1 : List jc} {ls : Array Slot}
    (hrun : jrun j_F j_mx j_rc j_df n j 0 (lv_args 0 (.ref a :: as)) [] hp 0 0 fr lo = some (v, hp1, c1, s1)) (hd : decode cc pc = .ok (.invokevirtual i, 3)) (hj : j < 361) (hk : j_kn j = 0) (hlink : Cond.methodLink own i (j_yn j) ∈ j_TW) (h9 : 9 ≤ a) (hcell0 : j_obr hp a (j_rc j) = true) (hnp : as.length = j_np j) (hsl : (lg_sl (.ref a :: as)).length ≤ j_mx j)
    (hfr : fr + 1 ≤ R.frames) (hlo : 8 + (j_mx j + 11) + lo ≤ R.locals) (hrest : (rest.map fun v => v.category).sum ≤ 8) (hl : ls.size = nL) (hH : j_H g ad B D cA vwCl s H hp) (hS : va_S (j_A B) s.heap H locs) (hc : cells + c1 ≤ R.cells) (hs : slots + s1 ≤ R.slots)
    (kk : ∀ (H1 : Heap) (locs1 : List Loc), j_H g ad B D cA vwCl s H1 hp1 → va_S (j_A B) s.heap H1 locs1 → W p l e R s m args below meth c H1 locs1 (cells + c1) (slots + s1) Q (F0 m (pc + 3) ls ((v.map (j_rv g)).toList ++ rest))) :
    W p l e R s m args below meth c H locs cells slots Q (F0 m pc ls ((as.map (j_rv g)).reverse ++ .ref (ad a) :: rest)) := by
  obtain ⟨hG, hx, hb, hml, hown, hts, hlocks, hname, hK, hSt, hKs, hBs⟩ := id hC
  have hga : g a = .ref (ad a) := hG.ref h9
  obtain ⟨fs, hcell⟩ := j_obr_at hcell0
  rcases jmf_all j hj with z | ⟨m1, m2, m3, -, -⟩
  · rw [hk] at z; cases z
  · obtain ⟨m5, m6, m7⟩ := m3 hk
    have word : ∀ x ∈ Cond.code (j_yn j) (j_bt j) (j_mx j) (j_rt j) :: j_TW, x ∈ j_TW := fun x hx => by
      rcases List.mem_cons.mp hx with e1 | e1
      · rw [e1]; exact m1.1
      · exact e1
    have hcb : CallB R s args own i (j_yn j) (j_bt j) (j_mx j) (j_rt j) (Cond.code (j_yn j) (j_bt j) (j_mx j) (j_rt j) :: j_TW) { frames := fr, cells := c1, slots := s1, locals := lo } c1 s1 (j_np j) :=
      ⟨rfl, rfl, hfr, hlo, fun x hx a' U hW => word_at hW (j_TW_good x (word x hx)) (hts x (word x hx)), List.mem_cons_self, hts _ m1.1, hts _ m1.2.1, m1.2.2.2.1, j_param _ m2, hts _ hlink⟩
    have hin := hH.2.2.2 a _ hcell
    unfold j_in at hin
    rw [if_neg (by omega)] at hin
    obtain ⟨r2, g1, g2, cell, g3, g4, g5, g6⟩ := hin.2 rfl
    have hcl : r2.1 = (j_yn j).cls := by
      rcases m7 with ⟨z1, -⟩ | ⟨-, rr, z2, z3⟩
      · have g1' : vwCl[j_rc j]? = some r2 := g1
        rw [z1, j_kd_ok.2.1] at g1'
        cases g1'
      · have : r2 = rr := Option.some.inj (g1.symm.trans z2)
        rw [this]; exact z3
    have hrecv : ∃ cellB : Cell, H[ad a]? = some cellB ∧ cellB.vm.isStatics = false ∧ s.vm.findClass (j_yn j).cls = some cellB.cls := by
      obtain ⟨-, hfc, -⟩ := hK.1 (j_rc j) _ g1
      exact ⟨cell, g3, by rw [g5]; rfl, by rw [← hcl, g4]; exact hfc⟩
    have hmet := j_met (l := l) (rt := j_rt) (yn := j_yn) (own := j_own) (bt := j_bt) (D := D) (cA := cA) (ad := ad) (B := B) (zs := j_zs) (ks := j_ks) hG n (j_run_ok (l := l) hG j_F_ok j_kd_ok j_TW_good n) hrun hsl m1
    refine j_call (va_runV (As := as.map (j_rv g)) (rest := rest) (b := ad a) (C := (j_yn j).cls) ⟨hx, hb, hml, hown, hts⟩ hmet ⟨hcb, hts _ m5, hts _ m6⟩ ⟨j_Pre.blind, hrecv, fun U hU hW => ⟨?_, j_Pre.at hK hSt hKs hBs hH hS hU hW⟩⟩ rfl (by simpa using hnp) hl rfl (lv_room hrest) hd ⟨hc, hs⟩) hS kk
    show (Value.ref (ad a) :: as.map (j_rv g)).toArray = (j_rv g (.ref a) :: as.map (j_rv g)).toArray
    rw [show j_rv g (.ref a) = .ref (ad a) from hga]
/-- a constructor's call out of the law -/
theorem j_lawI {p : Program} {l : Launch} {e : Env} {R : Room} {s : State} {m : MethodId} {args : Array Value} {below : List Frame} {meth : Method} {c : Code} {H : Heap} {locs : List Loc} {cells slots : Nat} {Q : State → Prop} {g : Nat → Value} {ad : Nat → Nat} {B : Nat} {D : va_G} {cA : Nat → ClassId} {own nm : String} {cc : ByteArray} {nL : Nat}
    (hC : j_Cx g ad B D cA vwCl j_TW j_zs j_ks own nm cc nL p s m args meth c) {n i j a pc fr lo c1 s1 : Nat} {rest : List Value} {v : Option Value} {hp hp1 : List jc} {ls : Array Slot}
    (hrun : jrun j_F j_mx j_rc j_df n j 0 (lv_args 0 [.ref a]) [] hp 0 0 fr lo = some (v, hp1, c1, s1)) (hd : decode cc pc = .ok (.invokespecial i, 3)) (hj : j < 361) (hk : j_kn j = 2) (hlink : Cond.methodLink own i (j_yn j) ∈ j_TW) (h9 : 9 ≤ a) (hnp : 0 = j_np j) (hsl : (lg_sl [.ref a]).length ≤ j_mx j)
    (hfr : fr + 1 ≤ R.frames) (hlo : 8 + (j_mx j + 11) + lo ≤ R.locals) (hrest : (rest.map fun v => v.category).sum ≤ 8) (hl : ls.size = nL) (hH : j_H g ad B D cA vwCl s H hp) (hS : va_S (j_A B) s.heap H locs) (hc : cells + c1 ≤ R.cells) (hs : slots + s1 ≤ R.slots)
    (kk : ∀ (H1 : Heap) (locs1 : List Loc), j_H g ad B D cA vwCl s H1 hp1 → va_S (j_A B) s.heap H1 locs1 → W p l e R s m args below meth c H1 locs1 (cells + c1) (slots + s1) Q (F0 m (pc + 3) ls ((v.map (j_rv g)).toList ++ rest))) :
    W p l e R s m args below meth c H locs cells slots Q (F0 m pc ls (.ref (ad a) :: rest)) := by
  obtain ⟨hG, hx, hb, hml, hown, hts, hlocks, hname, hK, hSt, hKs, hBs⟩ := id hC
  have hga : g a = .ref (ad a) := hG.ref h9
  rcases jmf_all j hj with z | ⟨m1, m2, -, -, m3⟩
  · rw [hk] at z; cases z
  · obtain ⟨m5, m6, m7⟩ := m3 hk
    have word : ∀ x ∈ Cond.code (j_yn j) (j_bt j) (j_mx j) (j_rt j) :: j_TW, x ∈ j_TW := fun x hx => by
      rcases List.mem_cons.mp hx with e1 | e1
      · rw [e1]; exact m1.1
      · exact e1
    have hcb : CallB R s args own i (j_yn j) (j_bt j) (j_mx j) (j_rt j) (Cond.code (j_yn j) (j_bt j) (j_mx j) (j_rt j) :: j_TW) { frames := fr, cells := c1, slots := s1, locals := lo } c1 s1 (j_np j) :=
      ⟨rfl, rfl, hfr, hlo, fun x hx a' U hW => word_at hW (j_TW_good x (word x hx)) (hts x (word x hx)), List.mem_cons_self, hts _ m1.1, hts _ m1.2.1, m1.2.2.2.1, j_param _ m2, hts _ hlink⟩
    have hmet := j_met (l := l) (rt := j_rt) (yn := j_yn) (own := j_own) (bt := j_bt) (D := D) (cA := cA) (ad := ad) (B := B) (zs := j_zs) (ks := j_ks) hG n (j_run_ok (l := l) hG j_F_ok j_kd_ok j_TW_good n) hrun hsl m1
    rw [m7] at hcb hmet
    refine j_call (va_runI (As := []) (rest := rest) (b := ad a) ⟨hx, hb, hml, hown, hts⟩ hmet ⟨hcb, m6, hts _ m5⟩ ⟨j_Pre.blind, fun U hU hW => ⟨?_, j_Pre.at hK hSt hKs hBs hH hS hU hW⟩⟩ rfl (by simpa using hnp) hl rfl (lv_room hrest) hd ⟨hc, hs⟩) hS kk
    show ([Value.ref (ad a)] : List Value).toArray = ([j_rv g (.ref a)] : List Value).toArray
    rw [show j_rv g (.ref a) = .ref (ad a) from hga]
/-- the end of the law's run, out of the large machine's words for an end -/
theorem j_lawRet {p : Program} {l : Launch} {e : Env} {s : State} {m : MethodId} {below : List Frame} {meth : Method} {c : Code} {b : Nat} {H : Heap} {locs : List Loc} {cells slots : Nat} (hx : p.tables.exec = Jvm.exec) (hb : c.code = code) (hr : meth.sig.returnType = ret) (hlocks : meth.locks = false) {pc : Nat} {ls : Array Slot} (hd : decode code pc = .ok (.ireturn, 1)) (hS : va_S (j_A s.heap.size) s.heap H locs) (hc : cells ≤ 600000) (hs : slots ≤ 7302250) : W p l e room_1 s m #[Value.ref b] below meth c H locs cells slots (lw_Z below #[Value.ref b] s) (F0 m pc ls [.int 1]) := by
  refine va_forget (fun q hq => hS.2.2 q hq) ?_
  refine W.widen hc hs ?_
  exact lw_ret hx hb hr hlocks hd
