/-! RUNS OF THE SMALL MACHINE, A STEP AT A TIME: for runs that hold variables. -/
noncomputable abbrev JR (n k pc : Nat) (lv : jL) (st : List Value) (hp : List jc) (c s fr lo : Nat) : Option jR := jrun j_F j_mx j_rc j_df n k pc lv st hp c s fr lo
def j_smp : Instr → Bool
  | .ireturn | .lreturn | .areturn | .return_ | .invokevirtual _ | .invokestatic _ | .invokespecial _ => false
  | _ => true
noncomputable def j_gf (hp : List jc) (a ci fi : Nat) : Option Value := match j_nth hp a with
  | some (false, c, fs) => cond (Nat.beq c ci && (Nat.ble 9 a || Nat.beq c 99)) (j_nth fs fi) none
  | _ => none
noncomputable def j_ob (hp : List jc) (a ci : Nat) : Bool := match j_nth hp a with | some (false, c, _) => Nat.beq c ci && Nat.ble 9 a | _ => false
noncomputable def j_obr (hp : List jc) (a ci : Nat) : Bool := match j_nth hp a with | some (false, c, _) => Nat.beq c ci && (Nat.ble 9 a || Nat.beq c 99) | _ => false
noncomputable def j_stf (hp : List jc) (a k : Nat) (v : Value) : List jc := match j_nth hp a with | some (b, t, l) => j_set (b, t, j_set v l k) hp a | none => hp
noncomputable def j_al (hp : List jc) (a : Nat) : Option Int32 := match j_nth hp a with | some (true, _, l) => some (Int32.ofNat l.length) | _ => none
noncomputable def j_el (hp : List jc) (a : Nat) (ts : List Nat) (i : Int32) : Option Value := match j_at hp a ts with
  | some l => if i < 0 then none else j_nth l i.toNatClampNeg
  | none => none
noncomputable def j_aok (hp : List jc) (a t : Nat) (i : Int32) : Bool := cond (Nat.ble 9 a) (match j_at hp a [t] with
  | some l => if i < 0 then false else Nat.blt i.toNatClampNeg l.length
  | none => false) false
def j_hp (r : Option jR) : List jc := match r with | some (_, h, _, _) => h | none => []
def j_val (r : Option jR) (v : Option Value) : Bool := match r with | some (w, _, 0, 0) => decide (w = v) | _ => false
theorem jr_cl {r : Option jR} {v : Option Value} (h : j_val r v = true) : r = some (v, j_hp r, 0, 0) := by
  unfold j_val at h
  split at h
  · have := of_decide_eq_true h
    subst this
    rfl
  · cases h
theorem jr_s {n k pc pc2 c s fr lo : Nat} {lv lv2 : jL} {st st2 : List Value} {hp hp2 : List jc} {e : jE} (hF : j_F k pc = some e) (hi : j_smp e.1 = true) (hs : jstep j_df (j_mx k) pc e lv st hp = some (pc2, lv2, st2, hp2, 0, 0)) : JR (n + 1) k pc lv st hp c s fr lo = JR n k pc2 lv2 st2 hp2 c s fr lo := by
  unfold JR
  rw [jrun_succ]
  unfold jbody
  rw [hF]
  obtain ⟨ins, len, l1, l2, val, ty⟩ := e
  cases ins <;> first | (cases hi; done) | (dsimp only; rw [hs]; rfl)
theorem jr_if1 {n k pc len tgt l2 c s fr lo : Nat} {lv : jL} {st : List Value} {hp : List jc} {cd : ClassFile.Cond} {off : Int} {val : Value} {ty : FieldType} {x : Int32} (hF : j_F k pc = some (.ifCond cd off, len, tgt, l2, val, ty)) (h : j_ck cd x 0 = true) : JR (n + 1) k pc lv (.int x :: st) hp c s fr lo = JR n k tgt lv st hp c s fr lo :=
  jr_s hF rfl (by show some (cond (j_ck cd x 0) tgt (pc + 3), lv, st, hp, 0, 0) = _; rw [h]; rfl)
theorem jr_if0 {n k pc len tgt l2 c s fr lo : Nat} {lv : jL} {st : List Value} {hp : List jc} {cd : ClassFile.Cond} {off : Int} {val : Value} {ty : FieldType} {x : Int32} (hF : j_F k pc = some (.ifCond cd off, len, tgt, l2, val, ty)) (h : j_ck cd x 0 = false) : JR (n + 1) k pc lv (.int x :: st) hp c s fr lo = JR n k (pc + 3) lv st hp c s fr lo :=
  jr_s hF rfl (by show some (cond (j_ck cd x 0) tgt (pc + 3), lv, st, hp, 0, 0) = _; rw [h]; rfl)
theorem jr_ic1 {n k pc len tgt l2 c s fr lo : Nat} {lv : jL} {st : List Value} {hp : List jc} {cd : ClassFile.Cond} {off : Int} {val : Value} {ty : FieldType} {x y : Int32} (hF : j_F k pc = some (.if_icmp cd off, len, tgt, l2, val, ty)) (h : j_ck cd x y = true) : JR (n + 1) k pc lv (.int y :: .int x :: st) hp c s fr lo = JR n k tgt lv st hp c s fr lo :=
  jr_s hF rfl (by show some (cond (j_ck cd x y) tgt (pc + 3), lv, st, hp, 0, 0) = _; rw [h]; rfl)
theorem jr_ic0 {n k pc len tgt l2 c s fr lo : Nat} {lv : jL} {st : List Value} {hp : List jc} {cd : ClassFile.Cond} {off : Int} {val : Value} {ty : FieldType} {x y : Int32} (hF : j_F k pc = some (.if_icmp cd off, len, tgt, l2, val, ty)) (h : j_ck cd x y = false) : JR (n + 1) k pc lv (.int y :: .int x :: st) hp c s fr lo = JR n k (pc + 3) lv st hp c s fr lo :=
  jr_s hF rfl (by show some (cond (j_ck cd x y) tgt (pc + 3), lv, st, hp, 0, 0) = _; rw [h]; rfl)
theorem jr_ts {n k pc len tgt l1 l2 c s fr lo : Nat} {lv : jL} {st : List Value} {hp : List jc} {dflt lw hi : Int} {offs : Array Int} {val : Value} {ty : FieldType} {x : Int32} (hF : j_F k pc = some (.tableswitch dflt lw hi offs, len, l1, l2, val, ty)) (h : x.toInt < lw ∨ hi < x.toInt) (ht : (pc : Int) + dflt = Int.ofNat tgt) : JR (n + 1) k pc lv (.int x :: st) hp c s fr lo = JR n k tgt lv st hp c s fr lo :=
  jr_s hF rfl (by
    show (match j_tsw pc dflt lw hi offs x.toInt with | some t => some (t, lv, st, hp, 0, 0) | none => none) = _
    have : j_tsw pc dflt lw hi offs x.toInt = some tgt := by
      unfold j_tsw
      simp only [h, if_true, ht]
    rw [this])
theorem jr_gf {n k pc a ci fi c s fr lo i : Nat} {lv : jL} {st : List Value} {hp : List jc} {v val : Value} {ty : FieldType} (hF : j_F k pc = some (.getfield i, 3, ci, fi, val, ty)) (h : j_gf hp a ci fi = some v) : JR (n + 1) k pc lv (.ref a :: st) hp c s fr lo = JR n k (pc + 3) lv (v :: st) hp c s fr lo :=
  jr_s hF rfl (by
    unfold j_gf at h
    show j_go pc 3 lv hp (match j_nth hp a with
      | some (false, c, fs) => cond (Nat.beq c ci && (Nat.ble 9 a || Nat.beq c 99)) (match j_nth fs fi with | some v => some (v :: st) | none => none) none
      | _ => none) = _
    split at h
    · rename_i c1 fs h1
      try rw [h1]
      cases hb : Nat.beq c1 ci && (Nat.ble 9 a || Nat.beq c1 99) with
      | false => rw [hb] at h; cases h
      | true =>
        rw [hb] at h
        have h2 : j_nth fs fi = some v := h
        simp only [hb, h2, cond_true]
        rfl
    · cases h)
theorem jr_pf {n k pc a ci fi c s fr lo i : Nat} {lv : jL} {st : List Value} {hp : List jc} {v val : Value} {ty : FieldType} (hF : j_F k pc = some (.putfield i, 3, ci, fi, val, ty)) (h : j_ob hp a ci = true) (h2 : j_fit ty v = true) : JR (n + 1) k pc lv (v :: .ref a :: st) hp c s fr lo = JR n k (pc + 3) lv st (j_stf hp a fi v) c s fr lo :=
  jr_s hF rfl (by
    unfold j_ob at h
    have e : jstep j_df (j_mx k) pc (.putfield i, 3, ci, fi, val, ty) lv (v :: .ref a :: st) hp = (match j_nth hp a with
      | some (false, c, fs) => cond (Nat.beq c ci && Nat.ble 9 a && j_fit ty v) (some (pc + 3, lv, st, j_set (false, c, j_set v fs fi) hp a, 0, 0)) none
      | _ => none) := by cases v <;> rfl
    rw [e]
    unfold j_stf
    split at h
    · rename_i c1 fs h1
      try rw [h1]
      simp only [h, h2, Bool.and_self, cond_true]
    · cases h)
theorem jr_al {n k pc a c s fr lo l1 l2 len : Nat} {lv : jL} {st : List Value} {hp : List jc} {v : Int32} {val : Value} {ty : FieldType} (hF : j_F k pc = some (.arraylength, len, l1, l2, val, ty)) (h : j_al hp a = some v) : JR (n + 1) k pc lv (.ref a :: st) hp c s fr lo = JR n k (pc + 1) lv (.int v :: st) hp c s fr lo :=
  jr_s hF rfl (by
    unfold j_al at h
    show j_go pc 1 lv hp (match j_nth hp a with | some (true, _, l) => some (.int (Int32.ofNat l.length) :: st) | _ => none) = _
    split at h
    · rename_i c1 fs h1
      try rw [h1]
      cases h
      rfl
    · cases h)
theorem j_ald_el {hp : List jc} {ts : List Nat} {a : Nat} {i : Int32} {st : List Value} {v : Value} (h : j_el hp a ts i = some v) : j_ald hp ts (.int i :: .ref a :: st) = some (v :: st) := by
  unfold j_el at h
  show (match j_at hp a ts with
    | some l => if i < 0 then none else match j_nth l i.toNatClampNeg with
      | some v => some (v :: st)
      | none => none
    | none => none) = _
  split at h
  · rename_i l hl
    try rw [hl]
    by_cases hi : i < 0
    · rw [if_pos hi] at h; cases h
    · rw [if_neg hi] at h
      simp only [hi, if_false, h]
  · cases h
theorem jr_ldi {n k pc a c s fr lo l1 l2 len : Nat} {lv : jL} {st : List Value} {hp : List jc} {i : Int32} {v val : Value} {ty : FieldType} (hF : j_F k pc = some (.iaload, len, l1, l2, val, ty)) (h : j_el hp a [0] i = some v) : JR (n + 1) k pc lv (.int i :: .ref a :: st) hp c s fr lo = JR n k (pc + 1) lv (v :: st) hp c s fr lo :=
  jr_s hF rfl (by show j_go pc 1 lv hp (j_ald hp [0] _) = _; rw [j_ald_el h]; rfl)
theorem jr_ldl {n k pc a c s fr lo l1 l2 len : Nat} {lv : jL} {st : List Value} {hp : List jc} {i : Int32} {v val : Value} {ty : FieldType} (hF : j_F k pc = some (.laload, len, l1, l2, val, ty)) (h : j_el hp a [1] i = some v) : JR (n + 1) k pc lv (.int i :: .ref a :: st) hp c s fr lo = JR n k (pc + 1) lv (v :: st) hp c s fr lo :=
  jr_s hF rfl (by show j_go pc 1 lv hp (j_ald hp [1] _) = _; rw [j_ald_el h]; rfl)
theorem jr_ldc {n k pc a c s fr lo l1 l2 len : Nat} {lv : jL} {st : List Value} {hp : List jc} {i : Int32} {v val : Value} {ty : FieldType} (hF : j_F k pc = some (.caload, len, l1, l2, val, ty)) (h : j_el hp a [2] i = some v) : JR (n + 1) k pc lv (.int i :: .ref a :: st) hp c s fr lo = JR n k (pc + 1) lv (v :: st) hp c s fr lo :=
  jr_s hF rfl (by show j_go pc 1 lv hp (j_ald hp [2] _) = _; rw [j_ald_el h]; rfl)
theorem jr_ldb {n k pc a c s fr lo l1 l2 len : Nat} {lv : jL} {st : List Value} {hp : List jc} {i : Int32} {v val : Value} {ty : FieldType} (hF : j_F k pc = some (.baload, len, l1, l2, val, ty)) (h : j_el hp a [3, 5] i = some v) : JR (n + 1) k pc lv (.int i :: .ref a :: st) hp c s fr lo = JR n k (pc + 1) lv (v :: st) hp c s fr lo :=
  jr_s hF rfl (by show j_go pc 1 lv hp (j_ald hp [3, 5] _) = _; rw [j_ald_el h]; rfl)
theorem j_ast_ok {hp : List jc} {a t k : Nat} {i : Int32} {v : Value} (h : j_aok hp a t i = true) (hk : i.toNatClampNeg = k) : j_ast hp a t i v = some (j_stf hp a k v) := by
  subst hk
  unfold j_aok at h
  unfold j_ast j_stf
  cases h9 : Nat.ble 9 a with
  | false => rw [h9] at h; cases h
  | true =>
    rw [h9] at h
    simp only [cond_true] at h ⊢
    split at h
    · rename_i l hl
      try rw [hl]
      by_cases hi : i < 0
      · rw [if_pos hi] at h; cases h
      · rw [if_neg hi] at h
        obtain ⟨t2, h1, h2⟩ := j_at_some hl
        have e : t2 = t := by simpa using h2
        subst e
        simp only [hi, if_false, h, cond_true, j_nth_eq, h1]
    · cases h
theorem jr_sti {n k pc a c s fr lo l1 l2 len q : Nat} {lv : jL} {st : List Value} {hp : List jc} {i x : Int32} {val : Value} {ty : FieldType} (hF : j_F k pc = some (.iastore, len, l1, l2, val, ty)) (h : j_aok hp a 0 i = true) (hk : i.toNatClampNeg = q) : JR (n + 1) k pc lv (.int x :: .int i :: .ref a :: st) hp c s fr lo = JR n k (pc + 1) lv st (j_stf hp a q (.int x)) c s fr lo :=
  jr_s hF rfl (by show (match j_ast hp a 0 i (.int x) with | some hp' => some (pc + 1, lv, st, hp', 0, 0) | none => none) = _; rw [j_ast_ok h hk])
theorem jr_stl {n k pc a c s fr lo l1 l2 len q : Nat} {lv : jL} {st : List Value} {hp : List jc} {i : Int32} {x : Int64} {val : Value} {ty : FieldType} (hF : j_F k pc = some (.lastore, len, l1, l2, val, ty)) (h : j_aok hp a 1 i = true) (hk : i.toNatClampNeg = q) : JR (n + 1) k pc lv (.long x :: .int i :: .ref a :: st) hp c s fr lo = JR n k (pc + 1) lv st (j_stf hp a q (.long x)) c s fr lo :=
  jr_s hF rfl (by show (match j_ast hp a 1 i (.long x) with | some hp' => some (pc + 1, lv, st, hp', 0, 0) | none => none) = _; rw [j_ast_ok h hk])
theorem jr_ri {n k pc len l1 l2 c s fr lo : Nat} {lv : jL} {hp : List jc} {val : Value} {ty : FieldType} {x : Int32} (hF : j_F k pc = some (.ireturn, len, l1, l2, val, ty)) (h : j_fit ty (.int x) = true) : JR (n + 1) k pc lv [.int x] hp c s fr lo = some (some (.int x), hp, c, s) := by
  unfold JR
  rw [jrun_succ]
  unfold jbody
  rw [hF]
  show cond (j_fit ty (.int x)) _ _ = _
  rw [h]
  rfl
theorem jr_rl {n k pc len l1 l2 c s fr lo : Nat} {lv : jL} {hp : List jc} {val : Value} {ty : FieldType} {x : Int64} (hF : j_F k pc = some (.lreturn, len, l1, l2, val, ty)) : JR (n + 1) k pc lv [.long x] hp c s fr lo = some (some (.long x), hp, c, s) := by
  unfold JR
  rw [jrun_succ]
  unfold jbody
  rw [hF]
theorem jr_rr {n k pc len l1 l2 c s fr lo : Nat} {lv : jL} {hp : List jc} {val : Value} {ty : FieldType} (hF : j_F k pc = some (.return_, len, l1, l2, val, ty)) : JR (n + 1) k pc lv [] hp c s fr lo = some (none, hp, c, s) := by
  unfold JR
  rw [jrun_succ]
  unfold jbody
  rw [hF]
def j_cnd (fr lo fr2 lo2 mx : Nat) (as rest : List Value) : Bool := Nat.ble 1 fr && Nat.ble (mx + 19) lo && Nat.beq (fr - 1) fr2 && Nat.beq (lo - (mx + 19)) lo2 && Nat.ble (lg_sl as).length mx && Nat.ble (rest.map fun v => v.category).sum 8
theorem j_tkd (as rest : List Value) : (as.reverse ++ rest).take as.length = as.reverse ∧ (as.reverse ++ rest).drop as.length = rest := by
  constructor
  · rw [List.take_left' (by simp)]
  · rw [List.drop_left' (by simp)]
theorem jr_cV {n k pc i j na c s fr lo fr2 lo2 a : Nat} {lv : jL} {as rest : List Value} {hp hp2 : List jc} {v : Option Value} {val : Value} {ty : FieldType} (hF : j_F k pc = some (.invokevirtual i, 3, j, na, val, ty)) (hr : j_obr hp a (j_rc j) = true) (hna : na = as.length + 1) (hcn : j_cnd fr lo fr2 lo2 (j_mx j) (.ref a :: as) rest = true) (hc : JR n j 0 (lv_args 0 (.ref a :: as)) [] hp 0 0 fr2 lo2 = some (v, hp2, 0, 0)) : JR (n + 1) k pc lv ((.ref a :: as).reverse ++ rest) hp c s fr lo = JR n k (pc + 3) lv (v.toList ++ rest) hp2 c s fr lo := by
  unfold JR at hc ⊢
  rw [jrun_succ]
  unfold jbody
  rw [hF]
  unfold j_cnd at hcn
  simp only [Bool.and_eq_true] at hcn
  obtain ⟨⟨⟨⟨⟨c1, c2⟩, c3⟩, c4⟩, c5⟩, c6⟩ := hcn
  have e3 := Nat.eq_of_beq_eq_true c3
  have e4 := Nat.eq_of_beq_eq_true c4
  obtain ⟨t1, t2⟩ := j_tkd (.ref a :: as) rest
  have hl : (Value.ref a :: as).length = na := by rw [hna]; rfl
  rw [hl] at t1 t2
  have hle : Nat.ble na ((Value.ref a :: as).reverse ++ rest).length = true := Nat.ble_eq_true_of_le (by rw [← hl]; simp)
  unfold j_obr at hr
  dsimp only
  rw [t1, t2, List.reverse_reverse, e3, e4, hc]
  split at hr
  · rename_i c0 fs hcell
    simp only [hle, c1, c2, c5, c6, hcell, hr, Bool.and_self, if_true, cond_true, Nat.add_zero]
  · cases hr
theorem jr_cS {n k pc i j na c s fr lo fr2 lo2 : Nat} {lv : jL} {as rest : List Value} {hp hp2 : List jc} {v : Option Value} {val : Value} {ty : FieldType} (hF : j_F k pc = some (.invokestatic i, 3, j, na, val, ty)) (hna : na = as.length) (hcn : j_cnd fr lo fr2 lo2 (j_mx j) as rest = true) (hc : JR n j 0 (lv_args 0 as) [] hp 0 0 fr2 lo2 = some (v, hp2, 0, 0)) (hj : Nat.ble 1001 j = false := by rfl) : JR (n + 1) k pc lv (as.reverse ++ rest) hp c s fr lo = JR n k (pc + 3) lv (v.toList ++ rest) hp2 c s fr lo := by
  unfold JR at hc ⊢
  rw [jrun_succ]
  unfold jbody
  rw [hF]
  unfold j_cnd at hcn
  simp only [Bool.and_eq_true] at hcn
  obtain ⟨⟨⟨⟨⟨c1, c2⟩, c3⟩, c4⟩, c5⟩, c6⟩ := hcn
  have e3 := Nat.eq_of_beq_eq_true c3
  have e4 := Nat.eq_of_beq_eq_true c4
  obtain ⟨t1, t2⟩ := j_tkd as rest
  rw [← hna] at t1 t2
  have hle : Nat.ble na (as.reverse ++ rest).length = true := Nat.ble_eq_true_of_le (by rw [hna]; simp)
  dsimp only
  rw [hj, cond_false, t1, t2, List.reverse_reverse, e3, e4, hc]
  simp only [hle, c1, c2, c5, c6, Bool.and_self, if_true, cond_true, Nat.add_zero]
  rfl
theorem jr_upl {n m k pc c s fr lo : Nat} {lv : jL} {st : List Value} {hp : List jc} {r : jR} (h : JR n k pc lv st hp c s fr lo = some r) (hm : n ≤ m) : JR m k pc lv st hp c s fr lo = some r := jrun_up n m k pc lv st hp c s fr lo r hm h
theorem jk_lt {x y : Int32} : x < y ↔ x.toInt < y.toInt := Int32.lt_iff_toInt_lt
theorem jk_le {x y : Int32} : x ≤ y ↔ x.toInt ≤ y.toInt := Int32.le_iff_toInt_le
theorem jk_eq_lt {x y : Int32} (h : x.toInt < y.toInt) : j_ck .eq x y = false := decide_eq_false (fun e => by rw [e] at h; omega)
theorem jk_eq_gt {x y : Int32} (h : y.toInt < x.toInt) : j_ck .eq x y = false := decide_eq_false (fun e => by rw [e] at h; omega)
theorem jk_ne_lt {x y : Int32} (h : x.toInt < y.toInt) : j_ck .ne x y = true := decide_eq_true (fun e => by rw [e] at h; omega)
theorem jk_ne_gt {x y : Int32} (h : y.toInt < x.toInt) : j_ck .ne x y = true := decide_eq_true (fun e => by rw [e] at h; omega)
theorem jk_lt_lt {x y : Int32} (h : x.toInt < y.toInt) : j_ck .lt x y = true := decide_eq_true (jk_lt.mpr h)
theorem jk_lt_ge {x y : Int32} (h : y.toInt ≤ x.toInt) : j_ck .lt x y = false := decide_eq_false (fun e => by have := jk_lt.mp e; omega)
theorem jk_ge_ge {x y : Int32} (h : y.toInt ≤ x.toInt) : j_ck .ge x y = true := decide_eq_true (jk_le.mpr h)
theorem jk_ge_lt {x y : Int32} (h : x.toInt < y.toInt) : j_ck .ge x y = false := decide_eq_false (fun e => by have := jk_le.mp e; omega)
theorem jk_gt_gt {x y : Int32} (h : y.toInt < x.toInt) : j_ck .gt x y = true := decide_eq_true (jk_lt.mpr h)
theorem jk_gt_le {x y : Int32} (h : x.toInt ≤ y.toInt) : j_ck .gt x y = false := decide_eq_false (fun e => by have := jk_lt.mp e; omega)
theorem jk_le_le {x y : Int32} (h : x.toInt ≤ y.toInt) : j_ck .le x y = true := decide_eq_true (jk_le.mpr h)
theorem jk_le_gt {x y : Int32} (h : y.toInt < x.toInt) : j_ck .le x y = false := decide_eq_false (fun e => by have := jk_le.mp e; omega)
theorem jkl_cmp {x y : Int64} : (lg_cmp x y < 0 ↔ x.toInt < y.toInt) ∧ (lg_cmp x y = 0 ↔ x.toInt = y.toInt) ∧ (0 < lg_cmp x y ↔ y.toInt < x.toInt) := by
  unfold lg_cmp
  by_cases h1 : y < x
  · have h2 := Int64.lt_iff_toInt_lt.mp h1
    rw [if_pos h1]
    exact ⟨⟨fun h => absurd h (by decide), fun h => by omega⟩, ⟨fun h => absurd h (by decide), fun h => by omega⟩, ⟨fun _ => h2, fun _ => by decide⟩⟩
  · have h2 : ¬ y.toInt < x.toInt := fun z => h1 (Int64.lt_iff_toInt_lt.mpr z)
    rw [if_neg h1]
    by_cases h3 : x = y
    · rw [if_pos h3, h3]
      exact ⟨⟨fun h => absurd h (by decide), fun h => by omega⟩, ⟨fun _ => rfl, fun _ => rfl⟩, ⟨fun h => absurd h (by decide), fun h => by omega⟩⟩
    · rw [if_neg h3]
      have h4 : x.toInt ≠ y.toInt := fun z => h3 (Int64.toInt_inj.mp z)
      exact ⟨⟨fun _ => by omega, fun _ => by decide⟩, ⟨fun h => absurd h (by decide), fun h => absurd h h4⟩, ⟨fun h => absurd h (by decide), fun h => by omega⟩⟩
theorem jkl_eq_lt {x y : Int64} (h : x.toInt < y.toInt) : j_ck .eq (lg_cmp x y) 0 = false := decide_eq_false (fun e => by have := jkl_cmp.2.1.mp e; omega)
theorem jkl_eq_gt {x y : Int64} (h : y.toInt < x.toInt) : j_ck .eq (lg_cmp x y) 0 = false := decide_eq_false (fun e => by have := jkl_cmp.2.1.mp e; omega)
theorem jkl_ne_lt {x y : Int64} (h : x.toInt < y.toInt) : j_ck .ne (lg_cmp x y) 0 = true := decide_eq_true (fun e => by have := jkl_cmp.2.1.mp e; omega)
theorem jkl_ne_gt {x y : Int64} (h : y.toInt < x.toInt) : j_ck .ne (lg_cmp x y) 0 = true := decide_eq_true (fun e => by have := jkl_cmp.2.1.mp e; omega)
theorem jkl_lt_lt {x y : Int64} (h : x.toInt < y.toInt) : j_ck .lt (lg_cmp x y) 0 = true := decide_eq_true (jkl_cmp.1.mpr h)
theorem jkl_lt_ge {x y : Int64} (h : y.toInt ≤ x.toInt) : j_ck .lt (lg_cmp x y) 0 = false := decide_eq_false (fun e => by have := jkl_cmp.1.mp e; omega)
theorem jkl_ge_lt {x y : Int64} (h : x.toInt < y.toInt) : j_ck .ge (lg_cmp x y) 0 = false := decide_eq_false (fun e => by have := jkl_cmp.1.mpr h; exact absurd this (Int32.not_lt.mpr e))
theorem jkl_ge_ge {x y : Int64} (h : y.toInt ≤ x.toInt) : j_ck .ge (lg_cmp x y) 0 = true := decide_eq_true (Int32.not_lt.mp (fun e => by have := jkl_cmp.1.mp e; omega))
theorem jkl_gt_gt {x y : Int64} (h : y.toInt < x.toInt) : j_ck .gt (lg_cmp x y) 0 = true := decide_eq_true (jkl_cmp.2.2.mpr h)
theorem jkl_gt_le {x y : Int64} (h : x.toInt ≤ y.toInt) : j_ck .gt (lg_cmp x y) 0 = false := decide_eq_false (fun e => by have := jkl_cmp.2.2.mp e; omega)
theorem jkl_le_gt {x y : Int64} (h : y.toInt < x.toInt) : j_ck .le (lg_cmp x y) 0 = false := decide_eq_false (fun e => by have := jkl_cmp.2.2.mpr h; exact absurd this (Int32.not_lt.mpr e))
theorem jkl_le_le {x y : Int64} (h : x.toInt ≤ y.toInt) : j_ck .le (lg_cmp x y) 0 = true := decide_eq_true (Int32.not_lt.mp (fun e => by have := jkl_cmp.2.2.mp e; omega))
theorem jo_add {x k : Int32} {n : Int} (hk : k.toInt = n) (h1 : -2147483648 ≤ x.toInt + n) (h2 : x.toInt + n ≤ 2147483647) : (x + k).toInt = x.toInt + n := by
  rw [Int32.toInt_add, hk]
  exact Int.bmod_eq_of_le (by omega) (by omega)
theorem jo_sub {x k : Int32} {n : Int} (hk : k.toInt = n) (h1 : -2147483648 ≤ x.toInt - n) (h2 : x.toInt - n ≤ 2147483647) : (x - k).toInt = x.toInt - n := by
  rw [Int32.toInt_sub, hk]
  exact Int.bmod_eq_of_le (by omega) (by omega)
theorem jo_subp {x k : Int32} {n : Int} (hk : k.toInt = n) (h1 : -2147483648 ≤ x.toInt - n + 4294967296) (h2 : x.toInt - n + 4294967296 ≤ 2147483647) : (x - k).toInt = x.toInt - n + 4294967296 := by
  rw [Int32.toInt_sub, hk, Int.bmod_def]
  split <;> omega
