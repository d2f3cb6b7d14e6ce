/-! A CELL WRITTEN, THE OTHERS AS THEY WERE. -/
noncomputable def j_arl (hp : List jc) (a t : Nat) : Option Nat := match j_nth hp a with
  | some (true, t1, l) => cond (Nat.beq t1 t) (some l.length) none
  | _ => none
theorem j_stf_ne {hp : List jc} {a b k : Nat} {v : Value} (h : a ≠ b) : j_nth (j_stf hp a k v) b = j_nth hp b := by
  unfold j_stf
  split
  · rw [j_nth_eq, j_set_eq, List.getElem?_set_ne h, j_nth_eq]
  · rfl
theorem j_stf_eq {hp : List jc} {a k : Nat} {v : Value} {b : Bool} {t : Nat} {l : List Value} (h : j_nth hp a = some (b, t, l)) : j_nth (j_stf hp a k v) a = some (b, t, j_set v l k) := by
  unfold j_stf
  rw [h]
  exact j_nth_set h
theorem j_stf_no {hp : List jc} {a k : Nat} {v : Value} (h : j_nth hp a = none) : j_stf hp a k v = hp := by
  unfold j_stf
  rw [h]
theorem j_gf_ne {hp : List jc} {a b k c f : Nat} {v : Value} (h : a ≠ b) : j_gf (j_stf hp a k v) b c f = j_gf hp b c f := by
  unfold j_gf
  rw [j_stf_ne h]
theorem j_gf_en {hp : List jc} {a k c f : Nat} {v : Value} (h : k ≠ f) : j_gf (j_stf hp a k v) a c f = j_gf hp a c f := by
  cases hn : j_nth hp a with
  | none => rw [j_stf_no hn]
  | some x =>
    obtain ⟨b, t, l⟩ := x
    unfold j_gf
    rw [j_stf_eq hn, hn]
    cases b with
    | true => rfl
    | false =>
      dsimp only
      rw [j_nth_eq (l := j_set v l k), j_set_eq, List.getElem?_set_ne h, ← j_nth_eq]
theorem j_gf_at {hp : List jc} {a c f : Nat} {v w : Value} (h : j_gf hp a c f = some w) : j_gf (j_stf hp a f v) a c f = some v := by
  unfold j_gf at h ⊢
  split at h
  · rename_i c1 fs hn
    rw [j_stf_eq hn]
    dsimp only
    cases hb : Nat.beq c1 c && (Nat.ble 9 a || Nat.beq c1 99) with
    | false => rw [hb] at h; cases h
    | true =>
      rw [hb] at h
      have h2 : j_nth fs f = some w := h
      rw [j_nth_eq] at h2
      show j_nth (j_set v fs f) f = some v
      rw [j_nth_eq, j_set_eq, List.getElem?_set_self (List.getElem?_eq_some_iff.mp h2).1]
  · cases h
theorem j_ob_stf {hp : List jc} {a b k c : Nat} {v : Value} : j_ob (j_stf hp a k v) b c = j_ob hp b c := by
  by_cases h : a = b
  · subst h
    cases hn : j_nth hp a with
    | none => rw [j_stf_no hn]
    | some x =>
      obtain ⟨b, t, l⟩ := x
      unfold j_ob
      rw [j_stf_eq hn, hn]
      cases b <;> rfl
  · unfold j_ob
    rw [j_stf_ne h]
theorem j_arl_stf {hp : List jc} {a b k t : Nat} {v : Value} : j_arl (j_stf hp a k v) b t = j_arl hp b t := by
  by_cases h : a = b
  · subst h
    cases hn : j_nth hp a with
    | none => rw [j_stf_no hn]
    | some x =>
      obtain ⟨b, t2, l⟩ := x
      unfold j_arl
      rw [j_stf_eq hn, hn]
      cases b with
      | false => rfl
      | true =>
        dsimp only
        rw [j_set_eq, List.length_set]
  · unfold j_arl
    rw [j_stf_ne h]
theorem j_obr_ob {hp : List jc} {a c : Nat} (h : j_ob hp a c = true) : j_obr hp a c = true := by
  unfold j_ob at h
  unfold j_obr
  split at h
  · rename_i c1 fs hn
    try rw [hn]
    rw [Bool.and_eq_true] at h
    show (Nat.beq c1 c && (Nat.ble 9 a || Nat.beq c1 99)) = true
    rw [h.1, h.2]
    rfl
  · cases h
theorem j_aok_arl {hp : List jc} {a t N : Nat} {i : Int32} (h : j_arl hp a t = some N) (h2 : (Nat.ble 9 a && !(decide (i < 0)) && Nat.blt i.toNatClampNeg N) = true) : j_aok hp a t i = true := by
  simp only [Bool.and_eq_true, Bool.not_eq_true', decide_eq_false_iff_not] at h2
  obtain ⟨⟨h9, h0⟩, hN⟩ := h2
  unfold j_arl at h
  unfold j_aok j_at
  split at h
  · rename_i t1 l hn
    try rw [hn]
    rw [h9]
    cases hb : Nat.beq t1 t with
    | false => rw [hb] at h; cases h
    | true =>
      rw [hb] at h
      have e : l.length = N := Option.some.inj h
      have e2 := Nat.eq_of_beq_eq_true hb
      subst e2
      have hany : [t1].any (fun z => Nat.beq z t1) = true := by simp
      dsimp only
      rw [hany, cond_true, cond_true]
      show (if i < 0 then false else Nat.blt i.toNatClampNeg l.length) = true
      rw [if_neg h0, e]
      exact hN
  · cases h
theorem jr_stb {n k pc a c s fr lo l1 l2 len q : Nat} {lv : jL} {st : List Value} {hp : List jc} {i x w : Int32} {val : Value} {ty : FieldType} (hF : j_F k pc = some (.bastore, len, l1, l2, val, ty)) (h : j_aok hp a 3 i = true) (hk : i.toNatClampNeg = q) (hw : narrow .boolean (.int x) = .int w := by decide) : JR (n + 1) k pc lv (.int x :: .int i :: .ref a :: st) hp c s fr lo = JR n k (pc + 1) lv st (j_stf hp a q (.int w)) c s fr lo :=
  jr_s hF rfl (by show (match j_ast hp a 3 i (narrow .boolean (.int x)) with | some hp' => some (pc + 1, lv, st, hp', 0, 0) | none => none) = _; rw [hw, j_ast_ok h hk])
