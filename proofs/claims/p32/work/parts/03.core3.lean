/-! THE SMALL MACHINE'S STEP AGAINST THE LARGE ONE'S ROWS. -/
abbrev jK : Type := List (String × Nat × String × Value) × List Cond
def j_len : Instr → Nat
  | .bipush _ | .iload _ | .lload _ | .aload _ | .istore _ | .lstore _ | .astore _ | .newarray _ | .ldc _ => 2
  | .sipush _ | .iinc _ _ | .ifCond _ _ | .if_icmp _ _ | .goto _ | .getfield _ | .putfield _ | .getstatic _ | .ldc2_w _ | .new _ | .anewarray _ | .invokevirtual _ | .invokespecial _ | .invokestatic _ => 3
  | _ => 1
def j_sf : Nat → String × String := fun i => match i with | 0 => ("value", "[B") | _ => ("coder", "B")
/-- what an entry of the code needs of the tables; 'own', 'nm': of the method that holds it; 'cl': the kinds of objects; 'TW': the words; 'zs': statics; 'ks': string constants -/
def j_lk (own nm : String) (cl : List vw_C) (TW : List Cond) (zs : List (String × String × String × Value)) (ks : jK) (pc : Nat) (e : jE) : Prop := match e.1 with
  | .ifCond _ off => (pc : Int) + off = (e.2.2.1 : Int)
  | .if_icmp _ off => (pc : Int) + off = (e.2.2.1 : Int)
  | .goto off => (pc : Int) + off = (e.2.2.1 : Int)
  | .lookupswitch _ ps => (ps.toList.zip (ps.toList.drop 1)).all (fun (a, next) => a.1 < next.1) = true
  | .getfield i => (e.2.2.1 = 99 ∧ e.2.2.2.1 < 2 ∧ Cond.fieldLink own i "java/lang/String" (j_sf e.2.2.2.1).1 (j_sf e.2.2.2.1).2 ∈ TW) ∨ (¬ e.2.2.1 = 99 ∧ ∃ (C : String) (T : u_T) (N : Nat), cl[e.2.2.1]? = some (C, T, N) ∧ e.2.2.2.1 < N ∧ (Cond.fieldLink own i (T e.2.2.2.1).1 (T e.2.2.2.1).2.1 (T e.2.2.2.1).2.2.1 ∈ TW ∨ ∃ host, Cond.fieldLinkNest own i (T e.2.2.2.1).1 (T e.2.2.2.1).2.1 (T e.2.2.2.1).2.2.1 host ∈ ks.2))
  | .putfield i => ¬ e.2.2.1 = 99 ∧ ∃ (C : String) (T : u_T) (N : Nat), cl[e.2.2.1]? = some (C, T, N) ∧ e.2.2.2.1 < N ∧ Cond.fieldLink own i (T e.2.2.2.1).1 (T e.2.2.2.1).2.1 (T e.2.2.2.1).2.2.1 ∈ TW ∧ parseFieldDescriptor (T e.2.2.2.1).2.2.1 = some e.2.2.2.2.2 ∧ ((T e.2.2.2.1).2.2.2 = true → nm = "<init>" ∧ (T e.2.2.2.1).1 = own)
  | .getstatic i => ∃ C n d, (C, n, d, e.2.2.2.2.1) ∈ zs ∧ Cond.fieldLink own i C n d ∈ TW
  | .ldc2_w i => ∃ x, e.2.2.2.2.1 = .long x ∧ Cond.constantLong own i x ∈ TW
  | .ldc i => ∃ tx, (own, i, tx, e.2.2.2.2.1) ∈ ks.1
  | .new i => ∃ (C : String) (T : u_T) (N : Nat), cl[e.2.2.1]? = some (C, T, N) ∧ Cond.classLink own i C ∈ TW ∧ Cond.instantiable C N ∈ TW ∧ Cond.initialized C ∈ TW
  | .newarray t => newarray.typeOf t = j_ty e.2.2.1 ∧ e.2.2.1 < 4 ∧ Cond.arrayClass (j_ty e.2.2.1) ∈ TW ∧ e.2.2.2.2.1 = defaultValue (j_ty e.2.2.1)
  | .anewarray i => Cond.classLink own i "HundredWords$Row" ∈ TW ∧ Cond.arrayOver (.object "HundredWords$Row") ∈ ks.2
  | _ => True
/-- what is said once of each kind of object: its words, its fields' types, their names apart, its cells when made -/
def j_kd (cl : List vw_C) (TW : List Cond) (df : Nat → List Value) : Prop := ∀ (ci : Nat) (C : String) (T : u_T) (N : Nat), cl[ci]? = some (C, T, N) →
  (∀ x ∈ u_ws C T N, x ∈ TW) ∧ (∃ ty0 : Nat → FieldType, (∀ k, k < N → parseFieldDescriptor (T k).2.2.1 = some (ty0 k)) ∧ (df ci).length = N ∧ ∀ k, k < N → (df ci)[k]? = some (defaultValue (ty0 k))) ∧ (∀ a, a < N → ∀ b, b < N → a ≠ b → (T a).2.1 ≠ (T b).2.1)
def j_St (g : Nat → Value) (B : Nat) (zs : List (String × String × String × Value)) (U : State) (H : Heap) : Prop := ∀ q ∈ zs, va_Z q.1 q.2.1 q.2.2.1 (j_rv g q.2.2.2) (j_A B) U H
def j_isN : Cond → Bool | .fieldLinkNest _ _ _ _ _ _ => true | .methodLinkNest _ _ _ _ => true | .arrayOver (.object _) => true | _ => false
def j_Ks (g : Nat → Value) (ks : jK) (U : State) : Prop := (∀ q ∈ ks.1, ∃ a : Nat, j_rv g q.2.2.2 = .ref a ∧ vk_R q.1 q.2.1 q.2.2.1 a U) ∧ ∀ x ∈ ks.2, j_isN x = true ∧ va_Nw x U
/-- where a walk stands: the machine, the code, the tables -/
def j_Cx (g : Nat → Value) (ad : Nat → Nat) (B : Nat) (D : va_G) (cA : Nat → ClassId) (cl : List vw_C) (TW : List Cond) (zs : List (String × String × String × Value)) (ks : jK) (own nm : String) (cc : ByteArray) (nL : Nat) (p : Program) (s : State) (m : MethodId) (args : Array Value) (meth : Method) (c : Code) : Prop :=
  j_G g ad B ∧ p.tables.exec = Jvm.exec ∧ c.code = cc ∧ c.maxLocals = nL ∧ s.vm.findClass own = some m.cls ∧ (∀ x ∈ TW, x.before args s = true) ∧ meth.locks = false ∧ (nm = "<init>" → meth.name = "<init>") ∧ va_K D cl (j_tys cA) s ∧ j_St g B zs s s.heap ∧ j_Ks g ks s ∧ B ≤ s.heap.size
theorem j_rv_fit (g : Nat → Value) (ad : Nat → Nat) (B : Nat) (hG : j_G g ad B) {ty : FieldType} {v : Value} (h : j_fit ty v = true) : narrow ty (j_rv g v) = j_rv g v ∧ fits ty (j_rv g v) = true := by
  have hg : ∀ k, g k = .null ∨ ∃ a, g k = .ref a := fun k => by
    by_cases e : k = 8
    · rw [e]; exact hG.2.1
    · exact Or.inr ⟨_, hG.1 k e⟩
  cases v with
  | int x =>
    cases ty with
    | int => exact ⟨rfl, rfl⟩
    | boolean =>
      simp only [j_fit, Bool.or_eq_true, decide_eq_true_eq] at h
      rcases h with rfl | rfl <;> exact ⟨rfl, rfl⟩
    | byte =>
      simp only [j_fit, Bool.and_eq_true, decide_eq_true_eq] at h
      exact ⟨by show Value.int x.toInt8.toInt32 = .int x; rw [h.1.1], by simp [j_rv, fits, h.1.2, h.2]⟩
    | char =>
      simp only [j_fit, Bool.and_eq_true, decide_eq_true_eq] at h
      refine ⟨?_, by simp [j_rv, fits, h.1.2, h.2]⟩
      show Value.int _ = Value.int x
      congr 1
      first | exact h.1.1 | (rw [← h.1.1]; first | rfl | simp) | (have := h.1.1; simp_all)
    | _ => cases h
  | long x =>
    cases ty <;> first | exact ⟨rfl, rfl⟩ | cases h
  | ref k =>
    cases ty with
    | object n =>
      show narrow (.object n) (g k) = g k ∧ fits (.object n) (g k) = true
      rcases hg k with e | ⟨a, e⟩ <;> rw [e] <;> exact ⟨rfl, rfl⟩
    | array n =>
      show narrow (.array n) (g k) = g k ∧ fits (.array n) (g k) = true
      rcases hg k with e | ⟨a, e⟩ <;> rw [e] <;> exact ⟨rfl, rfl⟩
    | _ => cases h
  | _ => cases ty <;> cases h
theorem arrV_congr {cI : ClassId} {N : Nat} {f h : Nat → Value} (e : ∀ j, j < N → f j = h j) : arrV cI N f = arrV cI N h := by
  unfold arrV
  congr 1
  apply Array.ext
  · simp
  · intro i h1 h2
    simp only [Array.getElem_ofFn]
    exact e i (by simpa using h1)
section JS
variable {g : Nat → Value} {ad : Nat → Nat} {B : Nat} {D : va_G} {cA : Nat → ClassId} {cl : List vw_C} {TW : List Cond} {zs : List (String × String × String × Value)} {ks : jK} {own nm : String} {cc : ByteArray} {nL : Nat} {df : Nat → List Value}
variable {p : Program} {l : Launch} {e : Env} {R : Room} {s : State} {m : MethodId} {args : Array Value} {below : List Frame} {meth : Method} {c : Code} {H : Heap} {locs : List Loc} {cells slots : Nat} {Q : State → Prop}
variable {pc pc' : Nat} {len l1 l2 dc ds : Nat} {val : Value} {ty : FieldType} {lv lv' : jL} {st st' : List Value} {hp hp' : List jc} {ls : Array Slot}
theorem j_s_iconst {n : Int} (hC : j_Cx g ad B D cA cl TW zs ks own nm cc nL p s m args meth c) (hkd : j_kd cl TW df ∧ cl[99]? = none ∧ ∀ rr : vw_C, cl[4]? = some rr → rr.1 = "HundredWords$Row") (hd : decode cc pc = .ok (.iconst n, len)) (hlen : len = j_len (.iconst n)) (hlk : j_lk own nm cl TW zs ks pc (.iconst n, len, l1, l2, val, ty)) (h : jstep df nL pc (.iconst n, len, l1, l2, val, ty) lv st hp = some (pc', lv', st', hp', dc, ds)) (hl : lv_has ls nL (j_sl g lv)) (hH : j_H g ad B D cA cl s H hp) (hS : va_S (j_A B) s.heap H locs) (hc : cells + dc ≤ R.cells) (hs : slots + ds ≤ R.slots)
    (kk : ∀ (H' : Heap) (locs' : List Loc) (ls' : Array Slot), lv_has ls' nL (j_sl g lv') → j_H g ad B D cA cl s H' hp' → va_S (j_A B) s.heap H' locs' → W p l e R s m args below meth c H' locs' (cells + dc) (slots + ds) Q (F0 m pc' ls' (st'.map (j_rv g)))) : W p l e R s m args below meth c H locs cells slots Q (F0 m pc ls (st.map (j_rv g))) := by
  obtain ⟨hG, hx, hb, hml, hown, hts, hlocks, hname, hK, hSt, hKs, hBs⟩ := hC
  subst hlen
  have h : j_go pc 1 lv hp (some (.int (Int32.ofInt n) :: st)) = some (pc', lv', st', hp', dc, ds) := h
  obtain ⟨q, hq, hX⟩ := j_go_some h
  cases hq
  cases hX
  exact lv_iconst hx hb hd rfl (kk H locs ls hl hH hS)
theorem j_s_bipush {n : Int} (hC : j_Cx g ad B D cA cl TW zs ks own nm cc nL p s m args meth c) (hkd : j_kd cl TW df ∧ cl[99]? = none ∧ ∀ rr : vw_C, cl[4]? = some rr → rr.1 = "HundredWords$Row") (hd : decode cc pc = .ok (.bipush n, len)) (hlen : len = j_len (.bipush n)) (hlk : j_lk own nm cl TW zs ks pc (.bipush n, len, l1, l2, val, ty)) (h : jstep df nL pc (.bipush n, len, l1, l2, val, ty) lv st hp = some (pc', lv', st', hp', dc, ds)) (hl : lv_has ls nL (j_sl g lv)) (hH : j_H g ad B D cA cl s H hp) (hS : va_S (j_A B) s.heap H locs) (hc : cells + dc ≤ R.cells) (hs : slots + ds ≤ R.slots)
    (kk : ∀ (H' : Heap) (locs' : List Loc) (ls' : Array Slot), lv_has ls' nL (j_sl g lv') → j_H g ad B D cA cl s H' hp' → va_S (j_A B) s.heap H' locs' → W p l e R s m args below meth c H' locs' (cells + dc) (slots + ds) Q (F0 m pc' ls' (st'.map (j_rv g)))) : W p l e R s m args below meth c H locs cells slots Q (F0 m pc ls (st.map (j_rv g))) := by
  obtain ⟨hG, hx, hb, hml, hown, hts, hlocks, hname, hK, hSt, hKs, hBs⟩ := hC
  subst hlen
  have h : j_go pc 2 lv hp (some (.int (Int8.ofInt n).toInt32 :: st)) = some (pc', lv', st', hp', dc, ds) := h
  obtain ⟨q, hq, hX⟩ := j_go_some h
  cases hq
  cases hX
  exact lv_bipush hx hb hd rfl (kk H locs ls hl hH hS)
theorem j_s_sipush {n : Int} (hC : j_Cx g ad B D cA cl TW zs ks own nm cc nL p s m args meth c) (hkd : j_kd cl TW df ∧ cl[99]? = none ∧ ∀ rr : vw_C, cl[4]? = some rr → rr.1 = "HundredWords$Row") (hd : decode cc pc = .ok (.sipush n, len)) (hlen : len = j_len (.sipush n)) (hlk : j_lk own nm cl TW zs ks pc (.sipush n, len, l1, l2, val, ty)) (h : jstep df nL pc (.sipush n, len, l1, l2, val, ty) lv st hp = some (pc', lv', st', hp', dc, ds)) (hl : lv_has ls nL (j_sl g lv)) (hH : j_H g ad B D cA cl s H hp) (hS : va_S (j_A B) s.heap H locs) (hc : cells + dc ≤ R.cells) (hs : slots + ds ≤ R.slots)
    (kk : ∀ (H' : Heap) (locs' : List Loc) (ls' : Array Slot), lv_has ls' nL (j_sl g lv') → j_H g ad B D cA cl s H' hp' → va_S (j_A B) s.heap H' locs' → W p l e R s m args below meth c H' locs' (cells + dc) (slots + ds) Q (F0 m pc' ls' (st'.map (j_rv g)))) : W p l e R s m args below meth c H locs cells slots Q (F0 m pc ls (st.map (j_rv g))) := by
  obtain ⟨hG, hx, hb, hml, hown, hts, hlocks, hname, hK, hSt, hKs, hBs⟩ := hC
  subst hlen
  have h : j_go pc 3 lv hp (some (.int (Int16.ofInt n).toInt32 :: st)) = some (pc', lv', st', hp', dc, ds) := h
  obtain ⟨q, hq, hX⟩ := j_go_some h
  cases hq
  cases hX
  exact lv_sipush hx hb hd rfl (kk H locs ls hl hH hS)
theorem j_s_lconst {n : Fin 2} (hC : j_Cx g ad B D cA cl TW zs ks own nm cc nL p s m args meth c) (hkd : j_kd cl TW df ∧ cl[99]? = none ∧ ∀ rr : vw_C, cl[4]? = some rr → rr.1 = "HundredWords$Row") (hd : decode cc pc = .ok (.lconst n, len)) (hlen : len = j_len (.lconst n)) (hlk : j_lk own nm cl TW zs ks pc (.lconst n, len, l1, l2, val, ty)) (h : jstep df nL pc (.lconst n, len, l1, l2, val, ty) lv st hp = some (pc', lv', st', hp', dc, ds)) (hl : lv_has ls nL (j_sl g lv)) (hH : j_H g ad B D cA cl s H hp) (hS : va_S (j_A B) s.heap H locs) (hc : cells + dc ≤ R.cells) (hs : slots + ds ≤ R.slots)
    (kk : ∀ (H' : Heap) (locs' : List Loc) (ls' : Array Slot), lv_has ls' nL (j_sl g lv') → j_H g ad B D cA cl s H' hp' → va_S (j_A B) s.heap H' locs' → W p l e R s m args below meth c H' locs' (cells + dc) (slots + ds) Q (F0 m pc' ls' (st'.map (j_rv g)))) : W p l e R s m args below meth c H locs cells slots Q (F0 m pc ls (st.map (j_rv g))) := by
  obtain ⟨hG, hx, hb, hml, hown, hts, hlocks, hname, hK, hSt, hKs, hBs⟩ := hC
  subst hlen
  have h : j_go pc 1 lv hp (some (.long (Int64.ofNat (n : Nat)) :: st)) = some (pc', lv', st', hp', dc, ds) := h
  obtain ⟨q, hq, hX⟩ := j_go_some h
  cases hq
  cases hX
  exact lv_lconst hx hb hd rfl (kk H locs ls hl hH hS)
theorem j_s_iload_n {n : Fin 4} (hC : j_Cx g ad B D cA cl TW zs ks own nm cc nL p s m args meth c) (hkd : j_kd cl TW df ∧ cl[99]? = none ∧ ∀ rr : vw_C, cl[4]? = some rr → rr.1 = "HundredWords$Row") (hd : decode cc pc = .ok (.iload_n n, len)) (hlen : len = j_len (.iload_n n)) (hlk : j_lk own nm cl TW zs ks pc (.iload_n n, len, l1, l2, val, ty)) (h : jstep df nL pc (.iload_n n, len, l1, l2, val, ty) lv st hp = some (pc', lv', st', hp', dc, ds)) (hl : lv_has ls nL (j_sl g lv)) (hH : j_H g ad B D cA cl s H hp) (hS : va_S (j_A B) s.heap H locs) (hc : cells + dc ≤ R.cells) (hs : slots + ds ≤ R.slots)
    (kk : ∀ (H' : Heap) (locs' : List Loc) (ls' : Array Slot), lv_has ls' nL (j_sl g lv') → j_H g ad B D cA cl s H' hp' → va_S (j_A B) s.heap H' locs' → W p l e R s m args below meth c H' locs' (cells + dc) (slots + ds) Q (F0 m pc' ls' (st'.map (j_rv g)))) : W p l e R s m args below meth c H locs cells slots Q (F0 m pc ls (st.map (j_rv g))) := by
  obtain ⟨hG, hx, hb, hml, hown, hts, hlocks, hname, hK, hSt, hKs, hBs⟩ := hC
  subst hlen
  obtain ⟨q, hq, hX⟩ := j_go_some h
  split at hq
  · rename_i x hj
    cases hq
    cases hX
    exact lv_iload_n hx hb hd rfl (j_get_ls hl hj) (kk H locs ls hl hH hS)
  · cases hq
theorem j_s_iload {n : Nat} (hC : j_Cx g ad B D cA cl TW zs ks own nm cc nL p s m args meth c) (hkd : j_kd cl TW df ∧ cl[99]? = none ∧ ∀ rr : vw_C, cl[4]? = some rr → rr.1 = "HundredWords$Row") (hd : decode cc pc = .ok (.iload n, len)) (hlen : len = j_len (.iload n)) (hlk : j_lk own nm cl TW zs ks pc (.iload n, len, l1, l2, val, ty)) (h : jstep df nL pc (.iload n, len, l1, l2, val, ty) lv st hp = some (pc', lv', st', hp', dc, ds)) (hl : lv_has ls nL (j_sl g lv)) (hH : j_H g ad B D cA cl s H hp) (hS : va_S (j_A B) s.heap H locs) (hc : cells + dc ≤ R.cells) (hs : slots + ds ≤ R.slots)
    (kk : ∀ (H' : Heap) (locs' : List Loc) (ls' : Array Slot), lv_has ls' nL (j_sl g lv') → j_H g ad B D cA cl s H' hp' → va_S (j_A B) s.heap H' locs' → W p l e R s m args below meth c H' locs' (cells + dc) (slots + ds) Q (F0 m pc' ls' (st'.map (j_rv g)))) : W p l e R s m args below meth c H locs cells slots Q (F0 m pc ls (st.map (j_rv g))) := by
  obtain ⟨hG, hx, hb, hml, hown, hts, hlocks, hname, hK, hSt, hKs, hBs⟩ := hC
  subst hlen
  obtain ⟨q, hq, hX⟩ := j_go_some h
  split at hq
  · rename_i x hj
    cases hq
    cases hX
    exact lv_iload hx hb hd (j_get_ls hl hj) (kk H locs ls hl hH hS)
  · cases hq
theorem j_s_lload_n {n : Fin 4} (hC : j_Cx g ad B D cA cl TW zs ks own nm cc nL p s m args meth c) (hkd : j_kd cl TW df ∧ cl[99]? = none ∧ ∀ rr : vw_C, cl[4]? = some rr → rr.1 = "HundredWords$Row") (hd : decode cc pc = .ok (.lload_n n, len)) (hlen : len = j_len (.lload_n n)) (hlk : j_lk own nm cl TW zs ks pc (.lload_n n, len, l1, l2, val, ty)) (h : jstep df nL pc (.lload_n n, len, l1, l2, val, ty) lv st hp = some (pc', lv', st', hp', dc, ds)) (hl : lv_has ls nL (j_sl g lv)) (hH : j_H g ad B D cA cl s H hp) (hS : va_S (j_A B) s.heap H locs) (hc : cells + dc ≤ R.cells) (hs : slots + ds ≤ R.slots)
    (kk : ∀ (H' : Heap) (locs' : List Loc) (ls' : Array Slot), lv_has ls' nL (j_sl g lv') → j_H g ad B D cA cl s H' hp' → va_S (j_A B) s.heap H' locs' → W p l e R s m args below meth c H' locs' (cells + dc) (slots + ds) Q (F0 m pc' ls' (st'.map (j_rv g)))) : W p l e R s m args below meth c H locs cells slots Q (F0 m pc ls (st.map (j_rv g))) := by
  obtain ⟨hG, hx, hb, hml, hown, hts, hlocks, hname, hK, hSt, hKs, hBs⟩ := hC
  subst hlen
  obtain ⟨q, hq, hX⟩ := j_go_some h
  split at hq
  · rename_i x hj
    cases hq
    cases hX
    exact lv_lload_n hx hb hd rfl (j_get_ls hl hj) (kk H locs ls hl hH hS)
  · cases hq
theorem j_s_lload {n : Nat} (hC : j_Cx g ad B D cA cl TW zs ks own nm cc nL p s m args meth c) (hkd : j_kd cl TW df ∧ cl[99]? = none ∧ ∀ rr : vw_C, cl[4]? = some rr → rr.1 = "HundredWords$Row") (hd : decode cc pc = .ok (.lload n, len)) (hlen : len = j_len (.lload n)) (hlk : j_lk own nm cl TW zs ks pc (.lload n, len, l1, l2, val, ty)) (h : jstep df nL pc (.lload n, len, l1, l2, val, ty) lv st hp = some (pc', lv', st', hp', dc, ds)) (hl : lv_has ls nL (j_sl g lv)) (hH : j_H g ad B D cA cl s H hp) (hS : va_S (j_A B) s.heap H locs) (hc : cells + dc ≤ R.cells) (hs : slots + ds ≤ R.slots)
    (kk : ∀ (H' : Heap) (locs' : List Loc) (ls' : Array Slot), lv_has ls' nL (j_sl g lv') → j_H g ad B D cA cl s H' hp' → va_S (j_A B) s.heap H' locs' → W p l e R s m args below meth c H' locs' (cells + dc) (slots + ds) Q (F0 m pc' ls' (st'.map (j_rv g)))) : W p l e R s m args below meth c H locs cells slots Q (F0 m pc ls (st.map (j_rv g))) := by
  obtain ⟨hG, hx, hb, hml, hown, hts, hlocks, hname, hK, hSt, hKs, hBs⟩ := hC
  subst hlen
  obtain ⟨q, hq, hX⟩ := j_go_some h
  split at hq
  · rename_i x hj
    cases hq
    cases hX
    exact lv_lload hx hb hd (j_get_ls hl hj) (kk H locs ls hl hH hS)
  · cases hq
theorem j_s_aload_n {n : Fin 4} (hC : j_Cx g ad B D cA cl TW zs ks own nm cc nL p s m args meth c) (hkd : j_kd cl TW df ∧ cl[99]? = none ∧ ∀ rr : vw_C, cl[4]? = some rr → rr.1 = "HundredWords$Row") (hd : decode cc pc = .ok (.aload_n n, len)) (hlen : len = j_len (.aload_n n)) (hlk : j_lk own nm cl TW zs ks pc (.aload_n n, len, l1, l2, val, ty)) (h : jstep df nL pc (.aload_n n, len, l1, l2, val, ty) lv st hp = some (pc', lv', st', hp', dc, ds)) (hl : lv_has ls nL (j_sl g lv)) (hH : j_H g ad B D cA cl s H hp) (hS : va_S (j_A B) s.heap H locs) (hc : cells + dc ≤ R.cells) (hs : slots + ds ≤ R.slots)
    (kk : ∀ (H' : Heap) (locs' : List Loc) (ls' : Array Slot), lv_has ls' nL (j_sl g lv') → j_H g ad B D cA cl s H' hp' → va_S (j_A B) s.heap H' locs' → W p l e R s m args below meth c H' locs' (cells + dc) (slots + ds) Q (F0 m pc' ls' (st'.map (j_rv g)))) : W p l e R s m args below meth c H locs cells slots Q (F0 m pc ls (st.map (j_rv g))) := by
  obtain ⟨hG, hx, hb, hml, hown, hts, hlocks, hname, hK, hSt, hKs, hBs⟩ := hC
  subst hlen
  obtain ⟨q, hq, hX⟩ := j_go_some h
  split at hq
  · rename_i x hj
    cases hq
    cases hX
    have hj' := j_get_ls hl hj
    have k2 := (kk H locs ls hl hH hS)
    change ls[_]? = some (Slot.val (g x)) at hj'
    change W p l e R s m args below meth c H locs _ _ Q (F0 m _ ls (g x :: st.map (j_rv g))) at k2
    have hg8 : g x = .null ∨ ∃ a, g x = .ref a := by
      by_cases h8 : x = 8
      · rw [h8]; exact hG.2.1
      · exact Or.inr ⟨_, hG.1 x h8⟩
    rcases hg8 with e8 | ⟨a, e8⟩
    · rw [e8] at hj' k2
      exact lv_aload_nN hx hb hd rfl hj' k2
    · rw [e8] at hj' k2
      exact lv_aload_n hx hb hd rfl hj' k2
  · cases hq
theorem j_s_aload {n : Nat} (hC : j_Cx g ad B D cA cl TW zs ks own nm cc nL p s m args meth c) (hkd : j_kd cl TW df ∧ cl[99]? = none ∧ ∀ rr : vw_C, cl[4]? = some rr → rr.1 = "HundredWords$Row") (hd : decode cc pc = .ok (.aload n, len)) (hlen : len = j_len (.aload n)) (hlk : j_lk own nm cl TW zs ks pc (.aload n, len, l1, l2, val, ty)) (h : jstep df nL pc (.aload n, len, l1, l2, val, ty) lv st hp = some (pc', lv', st', hp', dc, ds)) (hl : lv_has ls nL (j_sl g lv)) (hH : j_H g ad B D cA cl s H hp) (hS : va_S (j_A B) s.heap H locs) (hc : cells + dc ≤ R.cells) (hs : slots + ds ≤ R.slots)
    (kk : ∀ (H' : Heap) (locs' : List Loc) (ls' : Array Slot), lv_has ls' nL (j_sl g lv') → j_H g ad B D cA cl s H' hp' → va_S (j_A B) s.heap H' locs' → W p l e R s m args below meth c H' locs' (cells + dc) (slots + ds) Q (F0 m pc' ls' (st'.map (j_rv g)))) : W p l e R s m args below meth c H locs cells slots Q (F0 m pc ls (st.map (j_rv g))) := by
  obtain ⟨hG, hx, hb, hml, hown, hts, hlocks, hname, hK, hSt, hKs, hBs⟩ := hC
  subst hlen
  obtain ⟨q, hq, hX⟩ := j_go_some h
  split at hq
  · rename_i x hj
    cases hq
    cases hX
    have hj' := j_get_ls hl hj
    have k2 := (kk H locs ls hl hH hS)
    change ls[_]? = some (Slot.val (g x)) at hj'
    change W p l e R s m args below meth c H locs _ _ Q (F0 m _ ls (g x :: st.map (j_rv g))) at k2
    have hg8 : g x = .null ∨ ∃ a, g x = .ref a := by
      by_cases h8 : x = 8
      · rw [h8]; exact hG.2.1
      · exact Or.inr ⟨_, hG.1 x h8⟩
    rcases hg8 with e8 | ⟨a, e8⟩
    · rw [e8] at hj' k2
      exact lv_aloadN hx hb hd hj' k2
    · rw [e8] at hj' k2
      exact lv_aload hx hb hd hj' k2
  · cases hq
theorem j_s_istore_n {n : Fin 4} (hC : j_Cx g ad B D cA cl TW zs ks own nm cc nL p s m args meth c) (hkd : j_kd cl TW df ∧ cl[99]? = none ∧ ∀ rr : vw_C, cl[4]? = some rr → rr.1 = "HundredWords$Row") (hd : decode cc pc = .ok (.istore_n n, len)) (hlen : len = j_len (.istore_n n)) (hlk : j_lk own nm cl TW zs ks pc (.istore_n n, len, l1, l2, val, ty)) (h : jstep df nL pc (.istore_n n, len, l1, l2, val, ty) lv st hp = some (pc', lv', st', hp', dc, ds)) (hl : lv_has ls nL (j_sl g lv)) (hH : j_H g ad B D cA cl s H hp) (hS : va_S (j_A B) s.heap H locs) (hc : cells + dc ≤ R.cells) (hs : slots + ds ≤ R.slots)
    (kk : ∀ (H' : Heap) (locs' : List Loc) (ls' : Array Slot), lv_has ls' nL (j_sl g lv') → j_H g ad B D cA cl s H' hp' → va_S (j_A B) s.heap H' locs' → W p l e R s m args below meth c H' locs' (cells + dc) (slots + ds) Q (F0 m pc' ls' (st'.map (j_rv g)))) : W p l e R s m args below meth c H locs cells slots Q (F0 m pc ls (st.map (j_rv g))) := by
  obtain ⟨hG, hx, hb, hml, hown, hts, hlocks, hname, hK, hSt, hKs, hBs⟩ := hC
  subst hlen
  cases st with
  | nil => cases h
  | cons v r =>
    cases v with
    | int x =>
      change cond (Nat.blt _ nL) (some _) none = some _ at h
      cases hb1 : Nat.blt (n : Nat) nL with
      | false => rw [hb1] at h; cases h
      | true =>
        rw [hb1] at h
        cases h
        exact lv_istore_n hx hb hd rfl hl (Nat.le_of_ble_eq_true hb1) rfl (fun ls' hl' => kk H locs ls' (j_put1_has (v := .int x) hG hl') hH hS)
    | _ => cases h
theorem j_s_istore {n : Nat} (hC : j_Cx g ad B D cA cl TW zs ks own nm cc nL p s m args meth c) (hkd : j_kd cl TW df ∧ cl[99]? = none ∧ ∀ rr : vw_C, cl[4]? = some rr → rr.1 = "HundredWords$Row") (hd : decode cc pc = .ok (.istore n, len)) (hlen : len = j_len (.istore n)) (hlk : j_lk own nm cl TW zs ks pc (.istore n, len, l1, l2, val, ty)) (h : jstep df nL pc (.istore n, len, l1, l2, val, ty) lv st hp = some (pc', lv', st', hp', dc, ds)) (hl : lv_has ls nL (j_sl g lv)) (hH : j_H g ad B D cA cl s H hp) (hS : va_S (j_A B) s.heap H locs) (hc : cells + dc ≤ R.cells) (hs : slots + ds ≤ R.slots)
    (kk : ∀ (H' : Heap) (locs' : List Loc) (ls' : Array Slot), lv_has ls' nL (j_sl g lv') → j_H g ad B D cA cl s H' hp' → va_S (j_A B) s.heap H' locs' → W p l e R s m args below meth c H' locs' (cells + dc) (slots + ds) Q (F0 m pc' ls' (st'.map (j_rv g)))) : W p l e R s m args below meth c H locs cells slots Q (F0 m pc ls (st.map (j_rv g))) := by
  obtain ⟨hG, hx, hb, hml, hown, hts, hlocks, hname, hK, hSt, hKs, hBs⟩ := hC
  subst hlen
  cases st with
  | nil => cases h
  | cons v r =>
    cases v with
    | int x =>
      change cond (Nat.blt _ nL) (some _) none = some _ at h
      cases hb1 : Nat.blt (n : Nat) nL with
      | false => rw [hb1] at h; cases h
      | true =>
        rw [hb1] at h
        cases h
        exact lv_istore hx hb hd hl (Nat.le_of_ble_eq_true hb1) rfl (fun ls' hl' => kk H locs ls' (j_put1_has (v := .int x) hG hl') hH hS)
    | _ => cases h
theorem j_s_astore_n {n : Fin 4} (hC : j_Cx g ad B D cA cl TW zs ks own nm cc nL p s m args meth c) (hkd : j_kd cl TW df ∧ cl[99]? = none ∧ ∀ rr : vw_C, cl[4]? = some rr → rr.1 = "HundredWords$Row") (hd : decode cc pc = .ok (.astore_n n, len)) (hlen : len = j_len (.astore_n n)) (hlk : j_lk own nm cl TW zs ks pc (.astore_n n, len, l1, l2, val, ty)) (h : jstep df nL pc (.astore_n n, len, l1, l2, val, ty) lv st hp = some (pc', lv', st', hp', dc, ds)) (hl : lv_has ls nL (j_sl g lv)) (hH : j_H g ad B D cA cl s H hp) (hS : va_S (j_A B) s.heap H locs) (hc : cells + dc ≤ R.cells) (hs : slots + ds ≤ R.slots)
    (kk : ∀ (H' : Heap) (locs' : List Loc) (ls' : Array Slot), lv_has ls' nL (j_sl g lv') → j_H g ad B D cA cl s H' hp' → va_S (j_A B) s.heap H' locs' → W p l e R s m args below meth c H' locs' (cells + dc) (slots + ds) Q (F0 m pc' ls' (st'.map (j_rv g)))) : W p l e R s m args below meth c H locs cells slots Q (F0 m pc ls (st.map (j_rv g))) := by
  obtain ⟨hG, hx, hb, hml, hown, hts, hlocks, hname, hK, hSt, hKs, hBs⟩ := hC
  subst hlen
  cases st with
  | nil => cases h
  | cons v r =>
    cases v with
    | ref x =>
      change cond (Nat.blt _ nL && Nat.ble 9 x) (some _) none = some _ at h
      cases hb1 : Nat.blt (n : Nat) nL && Nat.ble 9 x with
      | false => rw [hb1] at h; cases h
      | true =>
        rw [hb1] at h
        cases h
        rw [Bool.and_eq_true] at hb1
        have h9 : g x = .ref (ad x) := hG.ref (Nat.le_of_ble_eq_true hb1.2)
        show W p l e R s m args below meth c H locs _ _ Q (F0 m _ ls (g x :: _))
        rw [h9]
        exact lv_astore_n hx hb hd rfl hl (Nat.le_of_ble_eq_true hb1.1) rfl (fun ls' hl' => kk H locs ls' (j_put1_has (v := .ref x) hG (by show lv_has _ _ ((_, g x) :: _); rw [h9]; exact hl')) hH hS)
    | _ => cases h
theorem j_s_astore {n : Nat} (hC : j_Cx g ad B D cA cl TW zs ks own nm cc nL p s m args meth c) (hkd : j_kd cl TW df ∧ cl[99]? = none ∧ ∀ rr : vw_C, cl[4]? = some rr → rr.1 = "HundredWords$Row") (hd : decode cc pc = .ok (.astore n, len)) (hlen : len = j_len (.astore n)) (hlk : j_lk own nm cl TW zs ks pc (.astore n, len, l1, l2, val, ty)) (h : jstep df nL pc (.astore n, len, l1, l2, val, ty) lv st hp = some (pc', lv', st', hp', dc, ds)) (hl : lv_has ls nL (j_sl g lv)) (hH : j_H g ad B D cA cl s H hp) (hS : va_S (j_A B) s.heap H locs) (hc : cells + dc ≤ R.cells) (hs : slots + ds ≤ R.slots)
    (kk : ∀ (H' : Heap) (locs' : List Loc) (ls' : Array Slot), lv_has ls' nL (j_sl g lv') → j_H g ad B D cA cl s H' hp' → va_S (j_A B) s.heap H' locs' → W p l e R s m args below meth c H' locs' (cells + dc) (slots + ds) Q (F0 m pc' ls' (st'.map (j_rv g)))) : W p l e R s m args below meth c H locs cells slots Q (F0 m pc ls (st.map (j_rv g))) := by
  obtain ⟨hG, hx, hb, hml, hown, hts, hlocks, hname, hK, hSt, hKs, hBs⟩ := hC
  subst hlen
  cases st with
  | nil => cases h
  | cons v r =>
    cases v with
    | ref x =>
      change cond (Nat.blt _ nL && Nat.ble 9 x) (some _) none = some _ at h
      cases hb1 : Nat.blt (n : Nat) nL && Nat.ble 9 x with
      | false => rw [hb1] at h; cases h
      | true =>
        rw [hb1] at h
        cases h
        rw [Bool.and_eq_true] at hb1
        have h9 : g x = .ref (ad x) := hG.ref (Nat.le_of_ble_eq_true hb1.2)
        show W p l e R s m args below meth c H locs _ _ Q (F0 m _ ls (g x :: _))
        rw [h9]
        exact lv_astore hx hb hd hl (Nat.le_of_ble_eq_true hb1.1) rfl (fun ls' hl' => kk H locs ls' (j_put1_has (v := .ref x) hG (by show lv_has _ _ ((_, g x) :: _); rw [h9]; exact hl')) hH hS)
    | _ => cases h
theorem j_s_lstore_n {n : Fin 4} (hC : j_Cx g ad B D cA cl TW zs ks own nm cc nL p s m args meth c) (hkd : j_kd cl TW df ∧ cl[99]? = none ∧ ∀ rr : vw_C, cl[4]? = some rr → rr.1 = "HundredWords$Row") (hd : decode cc pc = .ok (.lstore_n n, len)) (hlen : len = j_len (.lstore_n n)) (hlk : j_lk own nm cl TW zs ks pc (.lstore_n n, len, l1, l2, val, ty)) (h : jstep df nL pc (.lstore_n n, len, l1, l2, val, ty) lv st hp = some (pc', lv', st', hp', dc, ds)) (hl : lv_has ls nL (j_sl g lv)) (hH : j_H g ad B D cA cl s H hp) (hS : va_S (j_A B) s.heap H locs) (hc : cells + dc ≤ R.cells) (hs : slots + ds ≤ R.slots)
    (kk : ∀ (H' : Heap) (locs' : List Loc) (ls' : Array Slot), lv_has ls' nL (j_sl g lv') → j_H g ad B D cA cl s H' hp' → va_S (j_A B) s.heap H' locs' → W p l e R s m args below meth c H' locs' (cells + dc) (slots + ds) Q (F0 m pc' ls' (st'.map (j_rv g)))) : W p l e R s m args below meth c H locs cells slots Q (F0 m pc ls (st.map (j_rv g))) := by
  obtain ⟨hG, hx, hb, hml, hown, hts, hlocks, hname, hK, hSt, hKs, hBs⟩ := hC
  subst hlen
  cases st with
  | nil => cases h
  | cons v r =>
    cases v with
    | long x =>
      change cond (Nat.blt _ nL) (some _) none = some _ at h
      cases hb1 : Nat.blt ((n : Nat) + 1) nL with
      | false => rw [hb1] at h; cases h
      | true =>
        rw [hb1] at h
        cases h
        exact lv_lstore_n hx hb hd rfl hl (Nat.le_of_ble_eq_true hb1) rfl (fun ls' hl' => kk H locs ls' (j_put2_has (v := .long x) hG hl') hH hS)
    | _ => cases h
theorem j_s_lstore {n : Nat} (hC : j_Cx g ad B D cA cl TW zs ks own nm cc nL p s m args meth c) (hkd : j_kd cl TW df ∧ cl[99]? = none ∧ ∀ rr : vw_C, cl[4]? = some rr → rr.1 = "HundredWords$Row") (hd : decode cc pc = .ok (.lstore n, len)) (hlen : len = j_len (.lstore n)) (hlk : j_lk own nm cl TW zs ks pc (.lstore n, len, l1, l2, val, ty)) (h : jstep df nL pc (.lstore n, len, l1, l2, val, ty) lv st hp = some (pc', lv', st', hp', dc, ds)) (hl : lv_has ls nL (j_sl g lv)) (hH : j_H g ad B D cA cl s H hp) (hS : va_S (j_A B) s.heap H locs) (hc : cells + dc ≤ R.cells) (hs : slots + ds ≤ R.slots)
    (kk : ∀ (H' : Heap) (locs' : List Loc) (ls' : Array Slot), lv_has ls' nL (j_sl g lv') → j_H g ad B D cA cl s H' hp' → va_S (j_A B) s.heap H' locs' → W p l e R s m args below meth c H' locs' (cells + dc) (slots + ds) Q (F0 m pc' ls' (st'.map (j_rv g)))) : W p l e R s m args below meth c H locs cells slots Q (F0 m pc ls (st.map (j_rv g))) := by
  obtain ⟨hG, hx, hb, hml, hown, hts, hlocks, hname, hK, hSt, hKs, hBs⟩ := hC
  subst hlen
  cases st with
  | nil => cases h
  | cons v r =>
    cases v with
    | long x =>
      change cond (Nat.blt _ nL) (some _) none = some _ at h
      cases hb1 : Nat.blt ((n : Nat) + 1) nL with
      | false => rw [hb1] at h; cases h
      | true =>
        rw [hb1] at h
        cases h
        exact lv_lstore hx hb hd hl (Nat.le_of_ble_eq_true hb1) rfl (fun ls' hl' => kk H locs ls' (j_put2_has (v := .long x) hG hl') hH hS)
    | _ => cases h
theorem j_s_iinc {n : Nat} {z : Int} (hC : j_Cx g ad B D cA cl TW zs ks own nm cc nL p s m args meth c) (hkd : j_kd cl TW df ∧ cl[99]? = none ∧ ∀ rr : vw_C, cl[4]? = some rr → rr.1 = "HundredWords$Row") (hd : decode cc pc = .ok (.iinc n z, len)) (hlen : len = j_len (.iinc n z)) (hlk : j_lk own nm cl TW zs ks pc (.iinc n z, len, l1, l2, val, ty)) (h : jstep df nL pc (.iinc n z, len, l1, l2, val, ty) lv st hp = some (pc', lv', st', hp', dc, ds)) (hl : lv_has ls nL (j_sl g lv)) (hH : j_H g ad B D cA cl s H hp) (hS : va_S (j_A B) s.heap H locs) (hc : cells + dc ≤ R.cells) (hs : slots + ds ≤ R.slots)
    (kk : ∀ (H' : Heap) (locs' : List Loc) (ls' : Array Slot), lv_has ls' nL (j_sl g lv') → j_H g ad B D cA cl s H' hp' → va_S (j_A B) s.heap H' locs' → W p l e R s m args below meth c H' locs' (cells + dc) (slots + ds) Q (F0 m pc' ls' (st'.map (j_rv g)))) : W p l e R s m args below meth c H locs cells slots Q (F0 m pc ls (st.map (j_rv g))) := by
  obtain ⟨hG, hx, hb, hml, hown, hts, hlocks, hname, hK, hSt, hKs, hBs⟩ := hC
  subst hlen
  change (match j_get lv n with | some (.int x) => cond (Nat.blt n nL && Nat.beq 3 3) (some _) none | _ => none) = some _ at h
  split at h
  · rename_i x hj
    cases hb1 : Nat.blt n nL && Nat.beq 3 3 with
    | false => rw [hb1] at h; cases h
    | true =>
      rw [hb1] at h
      cases h
      rw [Bool.and_eq_true] at hb1
      obtain ⟨k, hk⟩ := List.getElem?_of_mem (List.mem_map.mpr ⟨(n, Value.int x), j_get_mem hj, rfl⟩ : (n, Value.int x) ∈ j_sl g lv)
      exact lv_iinc hx hb hd hl hk rfl (Nat.le_of_ble_eq_true hb1.1) rfl (fun ls' hl' => kk H locs ls' (j_put1_has (v := .int (x + Int32.ofInt z)) hG hl') hH hS)
  · cases h
theorem j_s_iadd (hC : j_Cx g ad B D cA cl TW zs ks own nm cc nL p s m args meth c) (hkd : j_kd cl TW df ∧ cl[99]? = none ∧ ∀ rr : vw_C, cl[4]? = some rr → rr.1 = "HundredWords$Row") (hd : decode cc pc = .ok (.iadd, len)) (hlen : len = j_len (.iadd)) (hlk : j_lk own nm cl TW zs ks pc (.iadd, len, l1, l2, val, ty)) (h : jstep df nL pc (.iadd, len, l1, l2, val, ty) lv st hp = some (pc', lv', st', hp', dc, ds)) (hl : lv_has ls nL (j_sl g lv)) (hH : j_H g ad B D cA cl s H hp) (hS : va_S (j_A B) s.heap H locs) (hc : cells + dc ≤ R.cells) (hs : slots + ds ≤ R.slots)
    (kk : ∀ (H' : Heap) (locs' : List Loc) (ls' : Array Slot), lv_has ls' nL (j_sl g lv') → j_H g ad B D cA cl s H' hp' → va_S (j_A B) s.heap H' locs' → W p l e R s m args below meth c H' locs' (cells + dc) (slots + ds) Q (F0 m pc' ls' (st'.map (j_rv g)))) : W p l e R s m args below meth c H locs cells slots Q (F0 m pc ls (st.map (j_rv g))) := by
  obtain ⟨hG, hx, hb, hml, hown, hts, hlocks, hname, hK, hSt, hKs, hBs⟩ := hC
  subst hlen
  obtain ⟨q, hq, hX⟩ := j_go_some h
  obtain ⟨x, y, r, rfl, rfl⟩ := j_ii_some hq
  cases hX
  exact lv_iadd hx hb hd (kk H locs ls hl hH hS)
theorem j_s_isub (hC : j_Cx g ad B D cA cl TW zs ks own nm cc nL p s m args meth c) (hkd : j_kd cl TW df ∧ cl[99]? = none ∧ ∀ rr : vw_C, cl[4]? = some rr → rr.1 = "HundredWords$Row") (hd : decode cc pc = .ok (.isub, len)) (hlen : len = j_len (.isub)) (hlk : j_lk own nm cl TW zs ks pc (.isub, len, l1, l2, val, ty)) (h : jstep df nL pc (.isub, len, l1, l2, val, ty) lv st hp = some (pc', lv', st', hp', dc, ds)) (hl : lv_has ls nL (j_sl g lv)) (hH : j_H g ad B D cA cl s H hp) (hS : va_S (j_A B) s.heap H locs) (hc : cells + dc ≤ R.cells) (hs : slots + ds ≤ R.slots)
    (kk : ∀ (H' : Heap) (locs' : List Loc) (ls' : Array Slot), lv_has ls' nL (j_sl g lv') → j_H g ad B D cA cl s H' hp' → va_S (j_A B) s.heap H' locs' → W p l e R s m args below meth c H' locs' (cells + dc) (slots + ds) Q (F0 m pc' ls' (st'.map (j_rv g)))) : W p l e R s m args below meth c H locs cells slots Q (F0 m pc ls (st.map (j_rv g))) := by
  obtain ⟨hG, hx, hb, hml, hown, hts, hlocks, hname, hK, hSt, hKs, hBs⟩ := hC
  subst hlen
  obtain ⟨q, hq, hX⟩ := j_go_some h
  obtain ⟨x, y, r, rfl, rfl⟩ := j_ii_some hq
  cases hX
  exact lv_isub hx hb hd (kk H locs ls hl hH hS)
theorem j_s_imul (hC : j_Cx g ad B D cA cl TW zs ks own nm cc nL p s m args meth c) (hkd : j_kd cl TW df ∧ cl[99]? = none ∧ ∀ rr : vw_C, cl[4]? = some rr → rr.1 = "HundredWords$Row") (hd : decode cc pc = .ok (.imul, len)) (hlen : len = j_len (.imul)) (hlk : j_lk own nm cl TW zs ks pc (.imul, len, l1, l2, val, ty)) (h : jstep df nL pc (.imul, len, l1, l2, val, ty) lv st hp = some (pc', lv', st', hp', dc, ds)) (hl : lv_has ls nL (j_sl g lv)) (hH : j_H g ad B D cA cl s H hp) (hS : va_S (j_A B) s.heap H locs) (hc : cells + dc ≤ R.cells) (hs : slots + ds ≤ R.slots)
    (kk : ∀ (H' : Heap) (locs' : List Loc) (ls' : Array Slot), lv_has ls' nL (j_sl g lv') → j_H g ad B D cA cl s H' hp' → va_S (j_A B) s.heap H' locs' → W p l e R s m args below meth c H' locs' (cells + dc) (slots + ds) Q (F0 m pc' ls' (st'.map (j_rv g)))) : W p l e R s m args below meth c H locs cells slots Q (F0 m pc ls (st.map (j_rv g))) := by
  obtain ⟨hG, hx, hb, hml, hown, hts, hlocks, hname, hK, hSt, hKs, hBs⟩ := hC
  subst hlen
  obtain ⟨q, hq, hX⟩ := j_go_some h
  obtain ⟨x, y, r, rfl, rfl⟩ := j_ii_some hq
  cases hX
  exact lv_imul hx hb hd (kk H locs ls hl hH hS)
theorem j_s_iand (hC : j_Cx g ad B D cA cl TW zs ks own nm cc nL p s m args meth c) (hkd : j_kd cl TW df ∧ cl[99]? = none ∧ ∀ rr : vw_C, cl[4]? = some rr → rr.1 = "HundredWords$Row") (hd : decode cc pc = .ok (.iand, len)) (hlen : len = j_len (.iand)) (hlk : j_lk own nm cl TW zs ks pc (.iand, len, l1, l2, val, ty)) (h : jstep df nL pc (.iand, len, l1, l2, val, ty) lv st hp = some (pc', lv', st', hp', dc, ds)) (hl : lv_has ls nL (j_sl g lv)) (hH : j_H g ad B D cA cl s H hp) (hS : va_S (j_A B) s.heap H locs) (hc : cells + dc ≤ R.cells) (hs : slots + ds ≤ R.slots)
    (kk : ∀ (H' : Heap) (locs' : List Loc) (ls' : Array Slot), lv_has ls' nL (j_sl g lv') → j_H g ad B D cA cl s H' hp' → va_S (j_A B) s.heap H' locs' → W p l e R s m args below meth c H' locs' (cells + dc) (slots + ds) Q (F0 m pc' ls' (st'.map (j_rv g)))) : W p l e R s m args below meth c H locs cells slots Q (F0 m pc ls (st.map (j_rv g))) := by
  obtain ⟨hG, hx, hb, hml, hown, hts, hlocks, hname, hK, hSt, hKs, hBs⟩ := hC
  subst hlen
  obtain ⟨q, hq, hX⟩ := j_go_some h
  obtain ⟨x, y, r, rfl, rfl⟩ := j_ii_some hq
  cases hX
  exact lv_iand hx hb hd (kk H locs ls hl hH hS)
theorem j_s_ior (hC : j_Cx g ad B D cA cl TW zs ks own nm cc nL p s m args meth c) (hkd : j_kd cl TW df ∧ cl[99]? = none ∧ ∀ rr : vw_C, cl[4]? = some rr → rr.1 = "HundredWords$Row") (hd : decode cc pc = .ok (.ior, len)) (hlen : len = j_len (.ior)) (hlk : j_lk own nm cl TW zs ks pc (.ior, len, l1, l2, val, ty)) (h : jstep df nL pc (.ior, len, l1, l2, val, ty) lv st hp = some (pc', lv', st', hp', dc, ds)) (hl : lv_has ls nL (j_sl g lv)) (hH : j_H g ad B D cA cl s H hp) (hS : va_S (j_A B) s.heap H locs) (hc : cells + dc ≤ R.cells) (hs : slots + ds ≤ R.slots)
    (kk : ∀ (H' : Heap) (locs' : List Loc) (ls' : Array Slot), lv_has ls' nL (j_sl g lv') → j_H g ad B D cA cl s H' hp' → va_S (j_A B) s.heap H' locs' → W p l e R s m args below meth c H' locs' (cells + dc) (slots + ds) Q (F0 m pc' ls' (st'.map (j_rv g)))) : W p l e R s m args below meth c H locs cells slots Q (F0 m pc ls (st.map (j_rv g))) := by
  obtain ⟨hG, hx, hb, hml, hown, hts, hlocks, hname, hK, hSt, hKs, hBs⟩ := hC
  subst hlen
  obtain ⟨q, hq, hX⟩ := j_go_some h
  obtain ⟨x, y, r, rfl, rfl⟩ := j_ii_some hq
  cases hX
  exact lv_ior hx hb hd (kk H locs ls hl hH hS)
theorem j_s_ishl (hC : j_Cx g ad B D cA cl TW zs ks own nm cc nL p s m args meth c) (hkd : j_kd cl TW df ∧ cl[99]? = none ∧ ∀ rr : vw_C, cl[4]? = some rr → rr.1 = "HundredWords$Row") (hd : decode cc pc = .ok (.ishl, len)) (hlen : len = j_len (.ishl)) (hlk : j_lk own nm cl TW zs ks pc (.ishl, len, l1, l2, val, ty)) (h : jstep df nL pc (.ishl, len, l1, l2, val, ty) lv st hp = some (pc', lv', st', hp', dc, ds)) (hl : lv_has ls nL (j_sl g lv)) (hH : j_H g ad B D cA cl s H hp) (hS : va_S (j_A B) s.heap H locs) (hc : cells + dc ≤ R.cells) (hs : slots + ds ≤ R.slots)
    (kk : ∀ (H' : Heap) (locs' : List Loc) (ls' : Array Slot), lv_has ls' nL (j_sl g lv') → j_H g ad B D cA cl s H' hp' → va_S (j_A B) s.heap H' locs' → W p l e R s m args below meth c H' locs' (cells + dc) (slots + ds) Q (F0 m pc' ls' (st'.map (j_rv g)))) : W p l e R s m args below meth c H locs cells slots Q (F0 m pc ls (st.map (j_rv g))) := by
  obtain ⟨hG, hx, hb, hml, hown, hts, hlocks, hname, hK, hSt, hKs, hBs⟩ := hC
  subst hlen
  obtain ⟨q, hq, hX⟩ := j_go_some h
  obtain ⟨x, y, r, rfl, rfl⟩ := j_ii_some hq
  cases hX
  exact lv_ishl hx hb hd (kk H locs ls hl hH hS)
theorem j_s_ishr (hC : j_Cx g ad B D cA cl TW zs ks own nm cc nL p s m args meth c) (hkd : j_kd cl TW df ∧ cl[99]? = none ∧ ∀ rr : vw_C, cl[4]? = some rr → rr.1 = "HundredWords$Row") (hd : decode cc pc = .ok (.ishr, len)) (hlen : len = j_len (.ishr)) (hlk : j_lk own nm cl TW zs ks pc (.ishr, len, l1, l2, val, ty)) (h : jstep df nL pc (.ishr, len, l1, l2, val, ty) lv st hp = some (pc', lv', st', hp', dc, ds)) (hl : lv_has ls nL (j_sl g lv)) (hH : j_H g ad B D cA cl s H hp) (hS : va_S (j_A B) s.heap H locs) (hc : cells + dc ≤ R.cells) (hs : slots + ds ≤ R.slots)
    (kk : ∀ (H' : Heap) (locs' : List Loc) (ls' : Array Slot), lv_has ls' nL (j_sl g lv') → j_H g ad B D cA cl s H' hp' → va_S (j_A B) s.heap H' locs' → W p l e R s m args below meth c H' locs' (cells + dc) (slots + ds) Q (F0 m pc' ls' (st'.map (j_rv g)))) : W p l e R s m args below meth c H locs cells slots Q (F0 m pc ls (st.map (j_rv g))) := by
  obtain ⟨hG, hx, hb, hml, hown, hts, hlocks, hname, hK, hSt, hKs, hBs⟩ := hC
  subst hlen
  obtain ⟨q, hq, hX⟩ := j_go_some h
  obtain ⟨x, y, r, rfl, rfl⟩ := j_ii_some hq
  cases hX
  exact lv_ishr hx hb hd (kk H locs ls hl hH hS)
theorem j_s_ladd (hC : j_Cx g ad B D cA cl TW zs ks own nm cc nL p s m args meth c) (hkd : j_kd cl TW df ∧ cl[99]? = none ∧ ∀ rr : vw_C, cl[4]? = some rr → rr.1 = "HundredWords$Row") (hd : decode cc pc = .ok (.ladd, len)) (hlen : len = j_len (.ladd)) (hlk : j_lk own nm cl TW zs ks pc (.ladd, len, l1, l2, val, ty)) (h : jstep df nL pc (.ladd, len, l1, l2, val, ty) lv st hp = some (pc', lv', st', hp', dc, ds)) (hl : lv_has ls nL (j_sl g lv)) (hH : j_H g ad B D cA cl s H hp) (hS : va_S (j_A B) s.heap H locs) (hc : cells + dc ≤ R.cells) (hs : slots + ds ≤ R.slots)
    (kk : ∀ (H' : Heap) (locs' : List Loc) (ls' : Array Slot), lv_has ls' nL (j_sl g lv') → j_H g ad B D cA cl s H' hp' → va_S (j_A B) s.heap H' locs' → W p l e R s m args below meth c H' locs' (cells + dc) (slots + ds) Q (F0 m pc' ls' (st'.map (j_rv g)))) : W p l e R s m args below meth c H locs cells slots Q (F0 m pc ls (st.map (j_rv g))) := by
  obtain ⟨hG, hx, hb, hml, hown, hts, hlocks, hname, hK, hSt, hKs, hBs⟩ := hC
  subst hlen
  obtain ⟨q, hq, hX⟩ := j_go_some h
  obtain ⟨x, y, r, rfl, rfl⟩ := j_ll_some hq
  cases hX
  exact lv_ladd hx hb hd (kk H locs ls hl hH hS)
theorem j_s_lsub (hC : j_Cx g ad B D cA cl TW zs ks own nm cc nL p s m args meth c) (hkd : j_kd cl TW df ∧ cl[99]? = none ∧ ∀ rr : vw_C, cl[4]? = some rr → rr.1 = "HundredWords$Row") (hd : decode cc pc = .ok (.lsub, len)) (hlen : len = j_len (.lsub)) (hlk : j_lk own nm cl TW zs ks pc (.lsub, len, l1, l2, val, ty)) (h : jstep df nL pc (.lsub, len, l1, l2, val, ty) lv st hp = some (pc', lv', st', hp', dc, ds)) (hl : lv_has ls nL (j_sl g lv)) (hH : j_H g ad B D cA cl s H hp) (hS : va_S (j_A B) s.heap H locs) (hc : cells + dc ≤ R.cells) (hs : slots + ds ≤ R.slots)
    (kk : ∀ (H' : Heap) (locs' : List Loc) (ls' : Array Slot), lv_has ls' nL (j_sl g lv') → j_H g ad B D cA cl s H' hp' → va_S (j_A B) s.heap H' locs' → W p l e R s m args below meth c H' locs' (cells + dc) (slots + ds) Q (F0 m pc' ls' (st'.map (j_rv g)))) : W p l e R s m args below meth c H locs cells slots Q (F0 m pc ls (st.map (j_rv g))) := by
  obtain ⟨hG, hx, hb, hml, hown, hts, hlocks, hname, hK, hSt, hKs, hBs⟩ := hC
  subst hlen
  obtain ⟨q, hq, hX⟩ := j_go_some h
  obtain ⟨x, y, r, rfl, rfl⟩ := j_ll_some hq
  cases hX
  exact lv_lsub hx hb hd (kk H locs ls hl hH hS)
theorem j_s_lmul (hC : j_Cx g ad B D cA cl TW zs ks own nm cc nL p s m args meth c) (hkd : j_kd cl TW df ∧ cl[99]? = none ∧ ∀ rr : vw_C, cl[4]? = some rr → rr.1 = "HundredWords$Row") (hd : decode cc pc = .ok (.lmul, len)) (hlen : len = j_len (.lmul)) (hlk : j_lk own nm cl TW zs ks pc (.lmul, len, l1, l2, val, ty)) (h : jstep df nL pc (.lmul, len, l1, l2, val, ty) lv st hp = some (pc', lv', st', hp', dc, ds)) (hl : lv_has ls nL (j_sl g lv)) (hH : j_H g ad B D cA cl s H hp) (hS : va_S (j_A B) s.heap H locs) (hc : cells + dc ≤ R.cells) (hs : slots + ds ≤ R.slots)
    (kk : ∀ (H' : Heap) (locs' : List Loc) (ls' : Array Slot), lv_has ls' nL (j_sl g lv') → j_H g ad B D cA cl s H' hp' → va_S (j_A B) s.heap H' locs' → W p l e R s m args below meth c H' locs' (cells + dc) (slots + ds) Q (F0 m pc' ls' (st'.map (j_rv g)))) : W p l e R s m args below meth c H locs cells slots Q (F0 m pc ls (st.map (j_rv g))) := by
  obtain ⟨hG, hx, hb, hml, hown, hts, hlocks, hname, hK, hSt, hKs, hBs⟩ := hC
  subst hlen
  obtain ⟨q, hq, hX⟩ := j_go_some h
  obtain ⟨x, y, r, rfl, rfl⟩ := j_ll_some hq
  cases hX
  exact lv_lmul hx hb hd (kk H locs ls hl hH hS)
theorem j_s_land (hC : j_Cx g ad B D cA cl TW zs ks own nm cc nL p s m args meth c) (hkd : j_kd cl TW df ∧ cl[99]? = none ∧ ∀ rr : vw_C, cl[4]? = some rr → rr.1 = "HundredWords$Row") (hd : decode cc pc = .ok (.land, len)) (hlen : len = j_len (.land)) (hlk : j_lk own nm cl TW zs ks pc (.land, len, l1, l2, val, ty)) (h : jstep df nL pc (.land, len, l1, l2, val, ty) lv st hp = some (pc', lv', st', hp', dc, ds)) (hl : lv_has ls nL (j_sl g lv)) (hH : j_H g ad B D cA cl s H hp) (hS : va_S (j_A B) s.heap H locs) (hc : cells + dc ≤ R.cells) (hs : slots + ds ≤ R.slots)
    (kk : ∀ (H' : Heap) (locs' : List Loc) (ls' : Array Slot), lv_has ls' nL (j_sl g lv') → j_H g ad B D cA cl s H' hp' → va_S (j_A B) s.heap H' locs' → W p l e R s m args below meth c H' locs' (cells + dc) (slots + ds) Q (F0 m pc' ls' (st'.map (j_rv g)))) : W p l e R s m args below meth c H locs cells slots Q (F0 m pc ls (st.map (j_rv g))) := by
  obtain ⟨hG, hx, hb, hml, hown, hts, hlocks, hname, hK, hSt, hKs, hBs⟩ := hC
  subst hlen
  obtain ⟨q, hq, hX⟩ := j_go_some h
  obtain ⟨x, y, r, rfl, rfl⟩ := j_ll_some hq
  cases hX
  exact lv_land hx hb hd (kk H locs ls hl hH hS)
theorem j_s_lor (hC : j_Cx g ad B D cA cl TW zs ks own nm cc nL p s m args meth c) (hkd : j_kd cl TW df ∧ cl[99]? = none ∧ ∀ rr : vw_C, cl[4]? = some rr → rr.1 = "HundredWords$Row") (hd : decode cc pc = .ok (.lor, len)) (hlen : len = j_len (.lor)) (hlk : j_lk own nm cl TW zs ks pc (.lor, len, l1, l2, val, ty)) (h : jstep df nL pc (.lor, len, l1, l2, val, ty) lv st hp = some (pc', lv', st', hp', dc, ds)) (hl : lv_has ls nL (j_sl g lv)) (hH : j_H g ad B D cA cl s H hp) (hS : va_S (j_A B) s.heap H locs) (hc : cells + dc ≤ R.cells) (hs : slots + ds ≤ R.slots)
    (kk : ∀ (H' : Heap) (locs' : List Loc) (ls' : Array Slot), lv_has ls' nL (j_sl g lv') → j_H g ad B D cA cl s H' hp' → va_S (j_A B) s.heap H' locs' → W p l e R s m args below meth c H' locs' (cells + dc) (slots + ds) Q (F0 m pc' ls' (st'.map (j_rv g)))) : W p l e R s m args below meth c H locs cells slots Q (F0 m pc ls (st.map (j_rv g))) := by
  obtain ⟨hG, hx, hb, hml, hown, hts, hlocks, hname, hK, hSt, hKs, hBs⟩ := hC
  subst hlen
  obtain ⟨q, hq, hX⟩ := j_go_some h
  obtain ⟨x, y, r, rfl, rfl⟩ := j_ll_some hq
  cases hX
  exact lv_lor hx hb hd (kk H locs ls hl hH hS)
theorem j_s_lxor (hC : j_Cx g ad B D cA cl TW zs ks own nm cc nL p s m args meth c) (hkd : j_kd cl TW df ∧ cl[99]? = none ∧ ∀ rr : vw_C, cl[4]? = some rr → rr.1 = "HundredWords$Row") (hd : decode cc pc = .ok (.lxor, len)) (hlen : len = j_len (.lxor)) (hlk : j_lk own nm cl TW zs ks pc (.lxor, len, l1, l2, val, ty)) (h : jstep df nL pc (.lxor, len, l1, l2, val, ty) lv st hp = some (pc', lv', st', hp', dc, ds)) (hl : lv_has ls nL (j_sl g lv)) (hH : j_H g ad B D cA cl s H hp) (hS : va_S (j_A B) s.heap H locs) (hc : cells + dc ≤ R.cells) (hs : slots + ds ≤ R.slots)
    (kk : ∀ (H' : Heap) (locs' : List Loc) (ls' : Array Slot), lv_has ls' nL (j_sl g lv') → j_H g ad B D cA cl s H' hp' → va_S (j_A B) s.heap H' locs' → W p l e R s m args below meth c H' locs' (cells + dc) (slots + ds) Q (F0 m pc' ls' (st'.map (j_rv g)))) : W p l e R s m args below meth c H locs cells slots Q (F0 m pc ls (st.map (j_rv g))) := by
  obtain ⟨hG, hx, hb, hml, hown, hts, hlocks, hname, hK, hSt, hKs, hBs⟩ := hC
  subst hlen
  obtain ⟨q, hq, hX⟩ := j_go_some h
  obtain ⟨x, y, r, rfl, rfl⟩ := j_ll_some hq
  cases hX
  exact lv_lxor hx hb hd (kk H locs ls hl hH hS)
theorem j_s_iushr (hC : j_Cx g ad B D cA cl TW zs ks own nm cc nL p s m args meth c) (hkd : j_kd cl TW df ∧ cl[99]? = none ∧ ∀ rr : vw_C, cl[4]? = some rr → rr.1 = "HundredWords$Row") (hd : decode cc pc = .ok (.iushr, len)) (hlen : len = j_len (.iushr)) (hlk : j_lk own nm cl TW zs ks pc (.iushr, len, l1, l2, val, ty)) (h : jstep df nL pc (.iushr, len, l1, l2, val, ty) lv st hp = some (pc', lv', st', hp', dc, ds)) (hl : lv_has ls nL (j_sl g lv)) (hH : j_H g ad B D cA cl s H hp) (hS : va_S (j_A B) s.heap H locs) (hc : cells + dc ≤ R.cells) (hs : slots + ds ≤ R.slots)
    (kk : ∀ (H' : Heap) (locs' : List Loc) (ls' : Array Slot), lv_has ls' nL (j_sl g lv') → j_H g ad B D cA cl s H' hp' → va_S (j_A B) s.heap H' locs' → W p l e R s m args below meth c H' locs' (cells + dc) (slots + ds) Q (F0 m pc' ls' (st'.map (j_rv g)))) : W p l e R s m args below meth c H locs cells slots Q (F0 m pc ls (st.map (j_rv g))) := by
  obtain ⟨hG, hx, hb, hml, hown, hts, hlocks, hname, hK, hSt, hKs, hBs⟩ := hC
  subst hlen
  obtain ⟨q, hq, hX⟩ := j_go_some h
  obtain ⟨x, y, r, rfl, rfl⟩ := j_ii_some hq
  cases hX
  exact lv_iushr hx hb hd rfl (kk H locs ls hl hH hS)
theorem j_s_lshl (hC : j_Cx g ad B D cA cl TW zs ks own nm cc nL p s m args meth c) (hkd : j_kd cl TW df ∧ cl[99]? = none ∧ ∀ rr : vw_C, cl[4]? = some rr → rr.1 = "HundredWords$Row") (hd : decode cc pc = .ok (.lshl, len)) (hlen : len = j_len (.lshl)) (hlk : j_lk own nm cl TW zs ks pc (.lshl, len, l1, l2, val, ty)) (h : jstep df nL pc (.lshl, len, l1, l2, val, ty) lv st hp = some (pc', lv', st', hp', dc, ds)) (hl : lv_has ls nL (j_sl g lv)) (hH : j_H g ad B D cA cl s H hp) (hS : va_S (j_A B) s.heap H locs) (hc : cells + dc ≤ R.cells) (hs : slots + ds ≤ R.slots)
    (kk : ∀ (H' : Heap) (locs' : List Loc) (ls' : Array Slot), lv_has ls' nL (j_sl g lv') → j_H g ad B D cA cl s H' hp' → va_S (j_A B) s.heap H' locs' → W p l e R s m args below meth c H' locs' (cells + dc) (slots + ds) Q (F0 m pc' ls' (st'.map (j_rv g)))) : W p l e R s m args below meth c H locs cells slots Q (F0 m pc ls (st.map (j_rv g))) := by
  obtain ⟨hG, hx, hb, hml, hown, hts, hlocks, hname, hK, hSt, hKs, hBs⟩ := hC
  subst hlen
  obtain ⟨q, hq, hX⟩ := j_go_some h
  obtain ⟨x, y, r, rfl, rfl⟩ := j_li_some hq
  cases hX
  exact lv_lshl hx hb hd rfl (kk H locs ls hl hH hS)
theorem j_s_lshr (hC : j_Cx g ad B D cA cl TW zs ks own nm cc nL p s m args meth c) (hkd : j_kd cl TW df ∧ cl[99]? = none ∧ ∀ rr : vw_C, cl[4]? = some rr → rr.1 = "HundredWords$Row") (hd : decode cc pc = .ok (.lshr, len)) (hlen : len = j_len (.lshr)) (hlk : j_lk own nm cl TW zs ks pc (.lshr, len, l1, l2, val, ty)) (h : jstep df nL pc (.lshr, len, l1, l2, val, ty) lv st hp = some (pc', lv', st', hp', dc, ds)) (hl : lv_has ls nL (j_sl g lv)) (hH : j_H g ad B D cA cl s H hp) (hS : va_S (j_A B) s.heap H locs) (hc : cells + dc ≤ R.cells) (hs : slots + ds ≤ R.slots)
    (kk : ∀ (H' : Heap) (locs' : List Loc) (ls' : Array Slot), lv_has ls' nL (j_sl g lv') → j_H g ad B D cA cl s H' hp' → va_S (j_A B) s.heap H' locs' → W p l e R s m args below meth c H' locs' (cells + dc) (slots + ds) Q (F0 m pc' ls' (st'.map (j_rv g)))) : W p l e R s m args below meth c H locs cells slots Q (F0 m pc ls (st.map (j_rv g))) := by
  obtain ⟨hG, hx, hb, hml, hown, hts, hlocks, hname, hK, hSt, hKs, hBs⟩ := hC
  subst hlen
  obtain ⟨q, hq, hX⟩ := j_go_some h
  obtain ⟨x, y, r, rfl, rfl⟩ := j_li_some hq
  cases hX
  exact lv_lshr hx hb hd rfl (kk H locs ls hl hH hS)
theorem j_s_lushr (hC : j_Cx g ad B D cA cl TW zs ks own nm cc nL p s m args meth c) (hkd : j_kd cl TW df ∧ cl[99]? = none ∧ ∀ rr : vw_C, cl[4]? = some rr → rr.1 = "HundredWords$Row") (hd : decode cc pc = .ok (.lushr, len)) (hlen : len = j_len (.lushr)) (hlk : j_lk own nm cl TW zs ks pc (.lushr, len, l1, l2, val, ty)) (h : jstep df nL pc (.lushr, len, l1, l2, val, ty) lv st hp = some (pc', lv', st', hp', dc, ds)) (hl : lv_has ls nL (j_sl g lv)) (hH : j_H g ad B D cA cl s H hp) (hS : va_S (j_A B) s.heap H locs) (hc : cells + dc ≤ R.cells) (hs : slots + ds ≤ R.slots)
    (kk : ∀ (H' : Heap) (locs' : List Loc) (ls' : Array Slot), lv_has ls' nL (j_sl g lv') → j_H g ad B D cA cl s H' hp' → va_S (j_A B) s.heap H' locs' → W p l e R s m args below meth c H' locs' (cells + dc) (slots + ds) Q (F0 m pc' ls' (st'.map (j_rv g)))) : W p l e R s m args below meth c H locs cells slots Q (F0 m pc ls (st.map (j_rv g))) := by
  obtain ⟨hG, hx, hb, hml, hown, hts, hlocks, hname, hK, hSt, hKs, hBs⟩ := hC
  subst hlen
  obtain ⟨q, hq, hX⟩ := j_go_some h
  obtain ⟨x, y, r, rfl, rfl⟩ := j_li_some hq
  cases hX
  exact lv_lushr hx hb hd rfl (kk H locs ls hl hH hS)
theorem j_s_idiv (hC : j_Cx g ad B D cA cl TW zs ks own nm cc nL p s m args meth c) (hkd : j_kd cl TW df ∧ cl[99]? = none ∧ ∀ rr : vw_C, cl[4]? = some rr → rr.1 = "HundredWords$Row") (hd : decode cc pc = .ok (.idiv, len)) (hlen : len = j_len (.idiv)) (hlk : j_lk own nm cl TW zs ks pc (.idiv, len, l1, l2, val, ty)) (h : jstep df nL pc (.idiv, len, l1, l2, val, ty) lv st hp = some (pc', lv', st', hp', dc, ds)) (hl : lv_has ls nL (j_sl g lv)) (hH : j_H g ad B D cA cl s H hp) (hS : va_S (j_A B) s.heap H locs) (hc : cells + dc ≤ R.cells) (hs : slots + ds ≤ R.slots)
    (kk : ∀ (H' : Heap) (locs' : List Loc) (ls' : Array Slot), lv_has ls' nL (j_sl g lv') → j_H g ad B D cA cl s H' hp' → va_S (j_A B) s.heap H' locs' → W p l e R s m args below meth c H' locs' (cells + dc) (slots + ds) Q (F0 m pc' ls' (st'.map (j_rv g)))) : W p l e R s m args below meth c H locs cells slots Q (F0 m pc ls (st.map (j_rv g))) := by
  obtain ⟨hG, hx, hb, hml, hown, hts, hlocks, hname, hK, hSt, hKs, hBs⟩ := hC
  subst hlen
  obtain ⟨q, hq, hX⟩ := j_go_some h
  obtain ⟨x, y, r, rfl, rfl, hne⟩ := j_id_some hq
  cases hX
  exact lv_idiv hx hb hd hne (kk H locs ls hl hH hS)
theorem j_s_irem (hC : j_Cx g ad B D cA cl TW zs ks own nm cc nL p s m args meth c) (hkd : j_kd cl TW df ∧ cl[99]? = none ∧ ∀ rr : vw_C, cl[4]? = some rr → rr.1 = "HundredWords$Row") (hd : decode cc pc = .ok (.irem, len)) (hlen : len = j_len (.irem)) (hlk : j_lk own nm cl TW zs ks pc (.irem, len, l1, l2, val, ty)) (h : jstep df nL pc (.irem, len, l1, l2, val, ty) lv st hp = some (pc', lv', st', hp', dc, ds)) (hl : lv_has ls nL (j_sl g lv)) (hH : j_H g ad B D cA cl s H hp) (hS : va_S (j_A B) s.heap H locs) (hc : cells + dc ≤ R.cells) (hs : slots + ds ≤ R.slots)
    (kk : ∀ (H' : Heap) (locs' : List Loc) (ls' : Array Slot), lv_has ls' nL (j_sl g lv') → j_H g ad B D cA cl s H' hp' → va_S (j_A B) s.heap H' locs' → W p l e R s m args below meth c H' locs' (cells + dc) (slots + ds) Q (F0 m pc' ls' (st'.map (j_rv g)))) : W p l e R s m args below meth c H locs cells slots Q (F0 m pc ls (st.map (j_rv g))) := by
  obtain ⟨hG, hx, hb, hml, hown, hts, hlocks, hname, hK, hSt, hKs, hBs⟩ := hC
  subst hlen
  obtain ⟨q, hq, hX⟩ := j_go_some h
  obtain ⟨x, y, r, rfl, rfl, hne⟩ := j_id_some hq
  cases hX
  exact lv_irem hx hb hd hne (kk H locs ls hl hH hS)
theorem j_s_ldiv (hC : j_Cx g ad B D cA cl TW zs ks own nm cc nL p s m args meth c) (hkd : j_kd cl TW df ∧ cl[99]? = none ∧ ∀ rr : vw_C, cl[4]? = some rr → rr.1 = "HundredWords$Row") (hd : decode cc pc = .ok (.ldiv, len)) (hlen : len = j_len (.ldiv)) (hlk : j_lk own nm cl TW zs ks pc (.ldiv, len, l1, l2, val, ty)) (h : jstep df nL pc (.ldiv, len, l1, l2, val, ty) lv st hp = some (pc', lv', st', hp', dc, ds)) (hl : lv_has ls nL (j_sl g lv)) (hH : j_H g ad B D cA cl s H hp) (hS : va_S (j_A B) s.heap H locs) (hc : cells + dc ≤ R.cells) (hs : slots + ds ≤ R.slots)
    (kk : ∀ (H' : Heap) (locs' : List Loc) (ls' : Array Slot), lv_has ls' nL (j_sl g lv') → j_H g ad B D cA cl s H' hp' → va_S (j_A B) s.heap H' locs' → W p l e R s m args below meth c H' locs' (cells + dc) (slots + ds) Q (F0 m pc' ls' (st'.map (j_rv g)))) : W p l e R s m args below meth c H locs cells slots Q (F0 m pc ls (st.map (j_rv g))) := by
  obtain ⟨hG, hx, hb, hml, hown, hts, hlocks, hname, hK, hSt, hKs, hBs⟩ := hC
  subst hlen
  obtain ⟨q, hq, hX⟩ := j_go_some h
  obtain ⟨x, y, r, rfl, rfl, hne⟩ := j_ld_some hq
  cases hX
  exact lv_ldiv hx hb hd hne (kk H locs ls hl hH hS)
theorem j_s_lrem (hC : j_Cx g ad B D cA cl TW zs ks own nm cc nL p s m args meth c) (hkd : j_kd cl TW df ∧ cl[99]? = none ∧ ∀ rr : vw_C, cl[4]? = some rr → rr.1 = "HundredWords$Row") (hd : decode cc pc = .ok (.lrem, len)) (hlen : len = j_len (.lrem)) (hlk : j_lk own nm cl TW zs ks pc (.lrem, len, l1, l2, val, ty)) (h : jstep df nL pc (.lrem, len, l1, l2, val, ty) lv st hp = some (pc', lv', st', hp', dc, ds)) (hl : lv_has ls nL (j_sl g lv)) (hH : j_H g ad B D cA cl s H hp) (hS : va_S (j_A B) s.heap H locs) (hc : cells + dc ≤ R.cells) (hs : slots + ds ≤ R.slots)
    (kk : ∀ (H' : Heap) (locs' : List Loc) (ls' : Array Slot), lv_has ls' nL (j_sl g lv') → j_H g ad B D cA cl s H' hp' → va_S (j_A B) s.heap H' locs' → W p l e R s m args below meth c H' locs' (cells + dc) (slots + ds) Q (F0 m pc' ls' (st'.map (j_rv g)))) : W p l e R s m args below meth c H locs cells slots Q (F0 m pc ls (st.map (j_rv g))) := by
  obtain ⟨hG, hx, hb, hml, hown, hts, hlocks, hname, hK, hSt, hKs, hBs⟩ := hC
  subst hlen
  obtain ⟨q, hq, hX⟩ := j_go_some h
  obtain ⟨x, y, r, rfl, rfl, hne⟩ := j_ld_some hq
  cases hX
  exact lv_lrem hx hb hd hne (kk H locs ls hl hH hS)
theorem j_s_lcmp (hC : j_Cx g ad B D cA cl TW zs ks own nm cc nL p s m args meth c) (hkd : j_kd cl TW df ∧ cl[99]? = none ∧ ∀ rr : vw_C, cl[4]? = some rr → rr.1 = "HundredWords$Row") (hd : decode cc pc = .ok (.lcmp, len)) (hlen : len = j_len (.lcmp)) (hlk : j_lk own nm cl TW zs ks pc (.lcmp, len, l1, l2, val, ty)) (h : jstep df nL pc (.lcmp, len, l1, l2, val, ty) lv st hp = some (pc', lv', st', hp', dc, ds)) (hl : lv_has ls nL (j_sl g lv)) (hH : j_H g ad B D cA cl s H hp) (hS : va_S (j_A B) s.heap H locs) (hc : cells + dc ≤ R.cells) (hs : slots + ds ≤ R.slots)
    (kk : ∀ (H' : Heap) (locs' : List Loc) (ls' : Array Slot), lv_has ls' nL (j_sl g lv') → j_H g ad B D cA cl s H' hp' → va_S (j_A B) s.heap H' locs' → W p l e R s m args below meth c H' locs' (cells + dc) (slots + ds) Q (F0 m pc' ls' (st'.map (j_rv g)))) : W p l e R s m args below meth c H locs cells slots Q (F0 m pc ls (st.map (j_rv g))) := by
  obtain ⟨hG, hx, hb, hml, hown, hts, hlocks, hname, hK, hSt, hKs, hBs⟩ := hC
  subst hlen
  obtain ⟨q, hq, hX⟩ := j_go_some h
  split at hq
  · cases hq
    cases hX
    exact W.lcmp hx hb hd (kk H locs ls hl hH hS)
  · cases hq
theorem j_s_ineg (hC : j_Cx g ad B D cA cl TW zs ks own nm cc nL p s m args meth c) (hkd : j_kd cl TW df ∧ cl[99]? = none ∧ ∀ rr : vw_C, cl[4]? = some rr → rr.1 = "HundredWords$Row") (hd : decode cc pc = .ok (.ineg, len)) (hlen : len = j_len (.ineg)) (hlk : j_lk own nm cl TW zs ks pc (.ineg, len, l1, l2, val, ty)) (h : jstep df nL pc (.ineg, len, l1, l2, val, ty) lv st hp = some (pc', lv', st', hp', dc, ds)) (hl : lv_has ls nL (j_sl g lv)) (hH : j_H g ad B D cA cl s H hp) (hS : va_S (j_A B) s.heap H locs) (hc : cells + dc ≤ R.cells) (hs : slots + ds ≤ R.slots)
    (kk : ∀ (H' : Heap) (locs' : List Loc) (ls' : Array Slot), lv_has ls' nL (j_sl g lv') → j_H g ad B D cA cl s H' hp' → va_S (j_A B) s.heap H' locs' → W p l e R s m args below meth c H' locs' (cells + dc) (slots + ds) Q (F0 m pc' ls' (st'.map (j_rv g)))) : W p l e R s m args below meth c H locs cells slots Q (F0 m pc ls (st.map (j_rv g))) := by
  obtain ⟨hG, hx, hb, hml, hown, hts, hlocks, hname, hK, hSt, hKs, hBs⟩ := hC
  subst hlen
  obtain ⟨q, hq, hX⟩ := j_go_some h
  split at hq
  · cases hq
    cases hX
    exact lv_ineg hx hb hd (kk H locs ls hl hH hS)
  · cases hq
theorem j_s_lneg (hC : j_Cx g ad B D cA cl TW zs ks own nm cc nL p s m args meth c) (hkd : j_kd cl TW df ∧ cl[99]? = none ∧ ∀ rr : vw_C, cl[4]? = some rr → rr.1 = "HundredWords$Row") (hd : decode cc pc = .ok (.lneg, len)) (hlen : len = j_len (.lneg)) (hlk : j_lk own nm cl TW zs ks pc (.lneg, len, l1, l2, val, ty)) (h : jstep df nL pc (.lneg, len, l1, l2, val, ty) lv st hp = some (pc', lv', st', hp', dc, ds)) (hl : lv_has ls nL (j_sl g lv)) (hH : j_H g ad B D cA cl s H hp) (hS : va_S (j_A B) s.heap H locs) (hc : cells + dc ≤ R.cells) (hs : slots + ds ≤ R.slots)
    (kk : ∀ (H' : Heap) (locs' : List Loc) (ls' : Array Slot), lv_has ls' nL (j_sl g lv') → j_H g ad B D cA cl s H' hp' → va_S (j_A B) s.heap H' locs' → W p l e R s m args below meth c H' locs' (cells + dc) (slots + ds) Q (F0 m pc' ls' (st'.map (j_rv g)))) : W p l e R s m args below meth c H locs cells slots Q (F0 m pc ls (st.map (j_rv g))) := by
  obtain ⟨hG, hx, hb, hml, hown, hts, hlocks, hname, hK, hSt, hKs, hBs⟩ := hC
  subst hlen
  obtain ⟨q, hq, hX⟩ := j_go_some h
  split at hq
  · cases hq
    cases hX
    exact lv_lneg hx hb hd (kk H locs ls hl hH hS)
  · cases hq
theorem j_s_i2l (hC : j_Cx g ad B D cA cl TW zs ks own nm cc nL p s m args meth c) (hkd : j_kd cl TW df ∧ cl[99]? = none ∧ ∀ rr : vw_C, cl[4]? = some rr → rr.1 = "HundredWords$Row") (hd : decode cc pc = .ok (.i2l, len)) (hlen : len = j_len (.i2l)) (hlk : j_lk own nm cl TW zs ks pc (.i2l, len, l1, l2, val, ty)) (h : jstep df nL pc (.i2l, len, l1, l2, val, ty) lv st hp = some (pc', lv', st', hp', dc, ds)) (hl : lv_has ls nL (j_sl g lv)) (hH : j_H g ad B D cA cl s H hp) (hS : va_S (j_A B) s.heap H locs) (hc : cells + dc ≤ R.cells) (hs : slots + ds ≤ R.slots)
    (kk : ∀ (H' : Heap) (locs' : List Loc) (ls' : Array Slot), lv_has ls' nL (j_sl g lv') → j_H g ad B D cA cl s H' hp' → va_S (j_A B) s.heap H' locs' → W p l e R s m args below meth c H' locs' (cells + dc) (slots + ds) Q (F0 m pc' ls' (st'.map (j_rv g)))) : W p l e R s m args below meth c H locs cells slots Q (F0 m pc ls (st.map (j_rv g))) := by
  obtain ⟨hG, hx, hb, hml, hown, hts, hlocks, hname, hK, hSt, hKs, hBs⟩ := hC
  subst hlen
  obtain ⟨q, hq, hX⟩ := j_go_some h
  split at hq
  · cases hq
    cases hX
    exact lv_i2l hx hb hd rfl (kk H locs ls hl hH hS)
  · cases hq
theorem j_s_l2i (hC : j_Cx g ad B D cA cl TW zs ks own nm cc nL p s m args meth c) (hkd : j_kd cl TW df ∧ cl[99]? = none ∧ ∀ rr : vw_C, cl[4]? = some rr → rr.1 = "HundredWords$Row") (hd : decode cc pc = .ok (.l2i, len)) (hlen : len = j_len (.l2i)) (hlk : j_lk own nm cl TW zs ks pc (.l2i, len, l1, l2, val, ty)) (h : jstep df nL pc (.l2i, len, l1, l2, val, ty) lv st hp = some (pc', lv', st', hp', dc, ds)) (hl : lv_has ls nL (j_sl g lv)) (hH : j_H g ad B D cA cl s H hp) (hS : va_S (j_A B) s.heap H locs) (hc : cells + dc ≤ R.cells) (hs : slots + ds ≤ R.slots)
    (kk : ∀ (H' : Heap) (locs' : List Loc) (ls' : Array Slot), lv_has ls' nL (j_sl g lv') → j_H g ad B D cA cl s H' hp' → va_S (j_A B) s.heap H' locs' → W p l e R s m args below meth c H' locs' (cells + dc) (slots + ds) Q (F0 m pc' ls' (st'.map (j_rv g)))) : W p l e R s m args below meth c H locs cells slots Q (F0 m pc ls (st.map (j_rv g))) := by
  obtain ⟨hG, hx, hb, hml, hown, hts, hlocks, hname, hK, hSt, hKs, hBs⟩ := hC
  subst hlen
  obtain ⟨q, hq, hX⟩ := j_go_some h
  split at hq
  · cases hq
    cases hX
    exact lv_l2i hx hb hd rfl (kk H locs ls hl hH hS)
  · cases hq
theorem j_s_i2c (hC : j_Cx g ad B D cA cl TW zs ks own nm cc nL p s m args meth c) (hkd : j_kd cl TW df ∧ cl[99]? = none ∧ ∀ rr : vw_C, cl[4]? = some rr → rr.1 = "HundredWords$Row") (hd : decode cc pc = .ok (.i2c, len)) (hlen : len = j_len (.i2c)) (hlk : j_lk own nm cl TW zs ks pc (.i2c, len, l1, l2, val, ty)) (h : jstep df nL pc (.i2c, len, l1, l2, val, ty) lv st hp = some (pc', lv', st', hp', dc, ds)) (hl : lv_has ls nL (j_sl g lv)) (hH : j_H g ad B D cA cl s H hp) (hS : va_S (j_A B) s.heap H locs) (hc : cells + dc ≤ R.cells) (hs : slots + ds ≤ R.slots)
    (kk : ∀ (H' : Heap) (locs' : List Loc) (ls' : Array Slot), lv_has ls' nL (j_sl g lv') → j_H g ad B D cA cl s H' hp' → va_S (j_A B) s.heap H' locs' → W p l e R s m args below meth c H' locs' (cells + dc) (slots + ds) Q (F0 m pc' ls' (st'.map (j_rv g)))) : W p l e R s m args below meth c H locs cells slots Q (F0 m pc ls (st.map (j_rv g))) := by
  obtain ⟨hG, hx, hb, hml, hown, hts, hlocks, hname, hK, hSt, hKs, hBs⟩ := hC
  subst hlen
  obtain ⟨q, hq, hX⟩ := j_go_some h
  split at hq
  · cases hq
    cases hX
    exact lv_i2c hx hb hd rfl (kk H locs ls hl hH hS)
  · cases hq
theorem j_s_dup (hC : j_Cx g ad B D cA cl TW zs ks own nm cc nL p s m args meth c) (hkd : j_kd cl TW df ∧ cl[99]? = none ∧ ∀ rr : vw_C, cl[4]? = some rr → rr.1 = "HundredWords$Row") (hd : decode cc pc = .ok (.dup, len)) (hlen : len = j_len (.dup)) (hlk : j_lk own nm cl TW zs ks pc (.dup, len, l1, l2, val, ty)) (h : jstep df nL pc (.dup, len, l1, l2, val, ty) lv st hp = some (pc', lv', st', hp', dc, ds)) (hl : lv_has ls nL (j_sl g lv)) (hH : j_H g ad B D cA cl s H hp) (hS : va_S (j_A B) s.heap H locs) (hc : cells + dc ≤ R.cells) (hs : slots + ds ≤ R.slots)
    (kk : ∀ (H' : Heap) (locs' : List Loc) (ls' : Array Slot), lv_has ls' nL (j_sl g lv') → j_H g ad B D cA cl s H' hp' → va_S (j_A B) s.heap H' locs' → W p l e R s m args below meth c H' locs' (cells + dc) (slots + ds) Q (F0 m pc' ls' (st'.map (j_rv g)))) : W p l e R s m args below meth c H locs cells slots Q (F0 m pc ls (st.map (j_rv g))) := by
  obtain ⟨hG, hx, hb, hml, hown, hts, hlocks, hname, hK, hSt, hKs, hBs⟩ := hC
  subst hlen
  obtain ⟨q, hq, hX⟩ := j_go_some h
  split at hq
  · rename_i v r
    cases hb1 : j_cat1 v with
    | false => rw [hb1] at hq; cases hq
    | true =>
      rw [hb1] at hq
      cases hq
      cases hX
      exact lv_dup hx hb hd (j_cat1_eq hG hb1) (kk H locs ls hl hH hS)
  · cases hq
theorem j_s_pop (hC : j_Cx g ad B D cA cl TW zs ks own nm cc nL p s m args meth c) (hkd : j_kd cl TW df ∧ cl[99]? = none ∧ ∀ rr : vw_C, cl[4]? = some rr → rr.1 = "HundredWords$Row") (hd : decode cc pc = .ok (.pop, len)) (hlen : len = j_len (.pop)) (hlk : j_lk own nm cl TW zs ks pc (.pop, len, l1, l2, val, ty)) (h : jstep df nL pc (.pop, len, l1, l2, val, ty) lv st hp = some (pc', lv', st', hp', dc, ds)) (hl : lv_has ls nL (j_sl g lv)) (hH : j_H g ad B D cA cl s H hp) (hS : va_S (j_A B) s.heap H locs) (hc : cells + dc ≤ R.cells) (hs : slots + ds ≤ R.slots)
    (kk : ∀ (H' : Heap) (locs' : List Loc) (ls' : Array Slot), lv_has ls' nL (j_sl g lv') → j_H g ad B D cA cl s H' hp' → va_S (j_A B) s.heap H' locs' → W p l e R s m args below meth c H' locs' (cells + dc) (slots + ds) Q (F0 m pc' ls' (st'.map (j_rv g)))) : W p l e R s m args below meth c H locs cells slots Q (F0 m pc ls (st.map (j_rv g))) := by
  obtain ⟨hG, hx, hb, hml, hown, hts, hlocks, hname, hK, hSt, hKs, hBs⟩ := hC
  subst hlen
  obtain ⟨q, hq, hX⟩ := j_go_some h
  split at hq
  · rename_i v r
    cases hb1 : j_cat1 v with
    | false => rw [hb1] at hq; cases hq
    | true =>
      rw [hb1] at hq
      cases hq
      cases hX
      exact lv_pop hx hb hd (j_cat1_eq hG hb1) (kk H locs ls hl hH hS)
  · cases hq
theorem j_s_dup2 (hC : j_Cx g ad B D cA cl TW zs ks own nm cc nL p s m args meth c) (hkd : j_kd cl TW df ∧ cl[99]? = none ∧ ∀ rr : vw_C, cl[4]? = some rr → rr.1 = "HundredWords$Row") (hd : decode cc pc = .ok (.dup2, len)) (hlen : len = j_len (.dup2)) (hlk : j_lk own nm cl TW zs ks pc (.dup2, len, l1, l2, val, ty)) (h : jstep df nL pc (.dup2, len, l1, l2, val, ty) lv st hp = some (pc', lv', st', hp', dc, ds)) (hl : lv_has ls nL (j_sl g lv)) (hH : j_H g ad B D cA cl s H hp) (hS : va_S (j_A B) s.heap H locs) (hc : cells + dc ≤ R.cells) (hs : slots + ds ≤ R.slots)
    (kk : ∀ (H' : Heap) (locs' : List Loc) (ls' : Array Slot), lv_has ls' nL (j_sl g lv') → j_H g ad B D cA cl s H' hp' → va_S (j_A B) s.heap H' locs' → W p l e R s m args below meth c H' locs' (cells + dc) (slots + ds) Q (F0 m pc' ls' (st'.map (j_rv g)))) : W p l e R s m args below meth c H locs cells slots Q (F0 m pc ls (st.map (j_rv g))) := by
  obtain ⟨hG, hx, hb, hml, hown, hts, hlocks, hname, hK, hSt, hKs, hBs⟩ := hC
  subst hlen
  obtain ⟨q, hq, hX⟩ := j_go_some h
  split at hq
  · rename_i v w r
    cases hb1 : j_cat1 v && j_cat1 w with
    | false => rw [hb1] at hq; cases hq
    | true =>
      rw [hb1] at hq
      cases hq
      cases hX
      rw [Bool.and_eq_true] at hb1
      exact lv_dup2_11 hx hb hd (j_cat1_eq hG hb1.1) (j_cat1_eq hG hb1.2) (kk H locs ls hl hH hS)
  · cases hq
theorem j_s_ifCond {cd : ClassFile.Cond} {off : Int} (hC : j_Cx g ad B D cA cl TW zs ks own nm cc nL p s m args meth c) (hkd : j_kd cl TW df ∧ cl[99]? = none ∧ ∀ rr : vw_C, cl[4]? = some rr → rr.1 = "HundredWords$Row") (hd : decode cc pc = .ok (.ifCond cd off, len)) (hlen : len = j_len (.ifCond cd off)) (hlk : j_lk own nm cl TW zs ks pc (.ifCond cd off, len, l1, l2, val, ty)) (h : jstep df nL pc (.ifCond cd off, len, l1, l2, val, ty) lv st hp = some (pc', lv', st', hp', dc, ds)) (hl : lv_has ls nL (j_sl g lv)) (hH : j_H g ad B D cA cl s H hp) (hS : va_S (j_A B) s.heap H locs) (hc : cells + dc ≤ R.cells) (hs : slots + ds ≤ R.slots)
    (kk : ∀ (H' : Heap) (locs' : List Loc) (ls' : Array Slot), lv_has ls' nL (j_sl g lv') → j_H g ad B D cA cl s H' hp' → va_S (j_A B) s.heap H' locs' → W p l e R s m args below meth c H' locs' (cells + dc) (slots + ds) Q (F0 m pc' ls' (st'.map (j_rv g)))) : W p l e R s m args below meth c H locs cells slots Q (F0 m pc ls (st.map (j_rv g))) := by
  obtain ⟨hG, hx, hb, hml, hown, hts, hlocks, hname, hK, hSt, hKs, hBs⟩ := hC
  subst hlen
  cases st with
  | nil => cases h
  | cons v r =>
    cases v with
    | int x =>
      change (pc : Int) + off = (l1 : Int) at hlk
      cases h
      cases cd
      · refine lv_if_eq (tgt := l1) hx hb hd hlk (fun hq => ?_) (fun hq => ?_)
        · have hk := (kk H locs ls hl hH hS)
          have e1 : j_ck .eq x 0 = true := decide_eq_true (show x = 0 from hq)
          rw [e1] at hk
          exact hk
        · have hk := (kk H locs ls hl hH hS)
          have e1 : j_ck .eq x 0 = false := decide_eq_false (show ¬ (x = 0) from hq)
          rw [e1] at hk
          exact hk
      · refine lv_if_ne (tgt := l1) hx hb hd hlk (fun hq => ?_) (fun hq => ?_)
        · have hk := (kk H locs ls hl hH hS)
          have e1 : j_ck .ne x 0 = true := decide_eq_true (show ¬ x = 0 from hq)
          rw [e1] at hk
          exact hk
        · have hk := (kk H locs ls hl hH hS)
          have e1 : j_ck .ne x 0 = false := decide_eq_false (show ¬ (¬ x = 0) from fun z => z hq)
          rw [e1] at hk
          exact hk
      · refine lv_if_lt (tgt := l1) hx hb hd hlk (fun hq => ?_) (fun hq => ?_)
        · have hk := (kk H locs ls hl hH hS)
          have e1 : j_ck .lt x 0 = true := decide_eq_true (show x < 0 from hq)
          rw [e1] at hk
          exact hk
        · have hk := (kk H locs ls hl hH hS)
          have e1 : j_ck .lt x 0 = false := decide_eq_false (show ¬ (x < 0) from hq)
          rw [e1] at hk
          exact hk
      · refine lv_if_ge (tgt := l1) hx hb hd hlk (fun hq => ?_) (fun hq => ?_)
        · have hk := (kk H locs ls hl hH hS)
          have e1 : j_ck .ge x 0 = true := decide_eq_true (show 0 ≤ x from hq)
          rw [e1] at hk
          exact hk
        · have hk := (kk H locs ls hl hH hS)
          have e1 : j_ck .ge x 0 = false := decide_eq_false (show ¬ (0 ≤ x) from hq)
          rw [e1] at hk
          exact hk
      · refine lv_if_gt (tgt := l1) hx hb hd hlk (fun hq => ?_) (fun hq => ?_)
        · have hk := (kk H locs ls hl hH hS)
          have e1 : j_ck .gt x 0 = true := decide_eq_true (show 0 < x from hq)
          rw [e1] at hk
          exact hk
        · have hk := (kk H locs ls hl hH hS)
          have e1 : j_ck .gt x 0 = false := decide_eq_false (show ¬ (0 < x) from hq)
          rw [e1] at hk
          exact hk
      · refine lv_if_le (tgt := l1) hx hb hd hlk (fun hq => ?_) (fun hq => ?_)
        · have hk := (kk H locs ls hl hH hS)
          have e1 : j_ck .le x 0 = true := decide_eq_true (show x ≤ 0 from hq)
          rw [e1] at hk
          exact hk
        · have hk := (kk H locs ls hl hH hS)
          have e1 : j_ck .le x 0 = false := decide_eq_false (show ¬ (x ≤ 0) from hq)
          rw [e1] at hk
          exact hk
    | _ => cases h
theorem j_s_if_icmp {cd : ClassFile.Cond} {off : Int} (hC : j_Cx g ad B D cA cl TW zs ks own nm cc nL p s m args meth c) (hkd : j_kd cl TW df ∧ cl[99]? = none ∧ ∀ rr : vw_C, cl[4]? = some rr → rr.1 = "HundredWords$Row") (hd : decode cc pc = .ok (.if_icmp cd off, len)) (hlen : len = j_len (.if_icmp cd off)) (hlk : j_lk own nm cl TW zs ks pc (.if_icmp cd off, len, l1, l2, val, ty)) (h : jstep df nL pc (.if_icmp cd off, len, l1, l2, val, ty) lv st hp = some (pc', lv', st', hp', dc, ds)) (hl : lv_has ls nL (j_sl g lv)) (hH : j_H g ad B D cA cl s H hp) (hS : va_S (j_A B) s.heap H locs) (hc : cells + dc ≤ R.cells) (hs : slots + ds ≤ R.slots)
    (kk : ∀ (H' : Heap) (locs' : List Loc) (ls' : Array Slot), lv_has ls' nL (j_sl g lv') → j_H g ad B D cA cl s H' hp' → va_S (j_A B) s.heap H' locs' → W p l e R s m args below meth c H' locs' (cells + dc) (slots + ds) Q (F0 m pc' ls' (st'.map (j_rv g)))) : W p l e R s m args below meth c H locs cells slots Q (F0 m pc ls (st.map (j_rv g))) := by
  obtain ⟨hG, hx, hb, hml, hown, hts, hlocks, hname, hK, hSt, hKs, hBs⟩ := hC
  subst hlen
  cases st with
  | nil => cases h
  | cons v r0 =>
    cases v with
    | int y =>
      cases r0 with
      | nil => cases h
      | cons v2 r =>
        cases v2 with
        | int x =>
          change (pc : Int) + off = (l1 : Int) at hlk
          cases h
          cases cd
          · refine lv_icmp_eq (tgt := l1) hx hb hd hlk (fun hq => ?_) (fun hq => ?_)
            · have hk := (kk H locs ls hl hH hS)
              have e1 : j_ck .eq x y = true := decide_eq_true (show x = y from hq)
              rw [e1] at hk
              exact hk
            · have hk := (kk H locs ls hl hH hS)
              have e1 : j_ck .eq x y = false := decide_eq_false (show ¬ (x = y) from hq)
              rw [e1] at hk
              exact hk
          · refine lv_icmp_ne (tgt := l1) hx hb hd hlk (fun hq => ?_) (fun hq => ?_)
            · have hk := (kk H locs ls hl hH hS)
              have e1 : j_ck .ne x y = true := decide_eq_true (show ¬ x = y from hq)
              rw [e1] at hk
              exact hk
            · have hk := (kk H locs ls hl hH hS)
              have e1 : j_ck .ne x y = false := decide_eq_false (show ¬ (¬ x = y) from fun z => z hq)
              rw [e1] at hk
              exact hk
          · refine lv_icmp_lt (tgt := l1) hx hb hd hlk (fun hq => ?_) (fun hq => ?_)
            · have hk := (kk H locs ls hl hH hS)
              have e1 : j_ck .lt x y = true := decide_eq_true (show x < y from hq)
              rw [e1] at hk
              exact hk
            · have hk := (kk H locs ls hl hH hS)
              have e1 : j_ck .lt x y = false := decide_eq_false (show ¬ (x < y) from hq)
              rw [e1] at hk
              exact hk
          · refine lv_icmp_ge (tgt := l1) hx hb hd hlk (fun hq => ?_) (fun hq => ?_)
            · have hk := (kk H locs ls hl hH hS)
              have e1 : j_ck .ge x y = true := decide_eq_true (show y ≤ x from hq)
              rw [e1] at hk
              exact hk
            · have hk := (kk H locs ls hl hH hS)
              have e1 : j_ck .ge x y = false := decide_eq_false (show ¬ (y ≤ x) from hq)
              rw [e1] at hk
              exact hk
          · refine lv_icmp_gt (tgt := l1) hx hb hd hlk (fun hq => ?_) (fun hq => ?_)
            · have hk := (kk H locs ls hl hH hS)
              have e1 : j_ck .gt x y = true := decide_eq_true (show y < x from hq)
              rw [e1] at hk
              exact hk
            · have hk := (kk H locs ls hl hH hS)
              have e1 : j_ck .gt x y = false := decide_eq_false (show ¬ (y < x) from hq)
              rw [e1] at hk
              exact hk
          · refine lv_icmp_le (tgt := l1) hx hb hd hlk (fun hq => ?_) (fun hq => ?_)
            · have hk := (kk H locs ls hl hH hS)
              have e1 : j_ck .le x y = true := decide_eq_true (show x ≤ y from hq)
              rw [e1] at hk
              exact hk
            · have hk := (kk H locs ls hl hH hS)
              have e1 : j_ck .le x y = false := decide_eq_false (show ¬ (x ≤ y) from hq)
              rw [e1] at hk
              exact hk
        | _ => cases h
    | _ => cases h
theorem j_s_goto {off : Int} (hC : j_Cx g ad B D cA cl TW zs ks own nm cc nL p s m args meth c) (hkd : j_kd cl TW df ∧ cl[99]? = none ∧ ∀ rr : vw_C, cl[4]? = some rr → rr.1 = "HundredWords$Row") (hd : decode cc pc = .ok (.goto off, len)) (hlen : len = j_len (.goto off)) (hlk : j_lk own nm cl TW zs ks pc (.goto off, len, l1, l2, val, ty)) (h : jstep df nL pc (.goto off, len, l1, l2, val, ty) lv st hp = some (pc', lv', st', hp', dc, ds)) (hl : lv_has ls nL (j_sl g lv)) (hH : j_H g ad B D cA cl s H hp) (hS : va_S (j_A B) s.heap H locs) (hc : cells + dc ≤ R.cells) (hs : slots + ds ≤ R.slots)
    (kk : ∀ (H' : Heap) (locs' : List Loc) (ls' : Array Slot), lv_has ls' nL (j_sl g lv') → j_H g ad B D cA cl s H' hp' → va_S (j_A B) s.heap H' locs' → W p l e R s m args below meth c H' locs' (cells + dc) (slots + ds) Q (F0 m pc' ls' (st'.map (j_rv g)))) : W p l e R s m args below meth c H locs cells slots Q (F0 m pc ls (st.map (j_rv g))) := by
  obtain ⟨hG, hx, hb, hml, hown, hts, hlocks, hname, hK, hSt, hKs, hBs⟩ := hC
  subst hlen
  change (pc : Int) + off = (l1 : Int) at hlk
  cases h
  exact lv_goto (tgt := l1) hx hb hd hlk (kk H locs ls hl hH hS)
theorem j_tsw_in {dflt lo hi x : Int} {offs : Array Int} {t : Nat} (h : j_tsw pc dflt lo hi offs x = some t) : ((x < lo ∨ hi < x) ∧ (pc : Int) + dflt = (t : Int)) ∨ (¬ x < lo ∧ ¬ hi < x ∧ ∃ off, offs[(x - lo).toNat]? = some off ∧ (pc : Int) + off = (t : Int)) := by
  unfold j_tsw at h
  by_cases hx : x < lo ∨ hi < x
  · simp only [hx, if_true] at h
    split at h
    · rename_i n hn
      cases h
      exact Or.inl ⟨hx, by rw [hn]; rfl⟩
    · cases h
  · simp only [hx, if_false] at h
    split at h
    · rename_i o ho
      split at h
      · rename_i n hn
        cases h
        exact Or.inr ⟨fun z => hx (Or.inl z), fun z => hx (Or.inr z), o, ho, by rw [hn]; rfl⟩
      · cases h
    · cases h
theorem j_s_tableswitch {dflt lo hi : Int} {offs : Array Int} (hC : j_Cx g ad B D cA cl TW zs ks own nm cc nL p s m args meth c) (hkd : j_kd cl TW df ∧ cl[99]? = none ∧ ∀ rr : vw_C, cl[4]? = some rr → rr.1 = "HundredWords$Row") (hd : decode cc pc = .ok (.tableswitch dflt lo hi offs, len)) (hlk : j_lk own nm cl TW zs ks pc (.tableswitch dflt lo hi offs, len, l1, l2, val, ty)) (h : jstep df nL pc (.tableswitch dflt lo hi offs, len, l1, l2, val, ty) lv st hp = some (pc', lv', st', hp', dc, ds)) (hl : lv_has ls nL (j_sl g lv)) (hH : j_H g ad B D cA cl s H hp) (hS : va_S (j_A B) s.heap H locs) (hc : cells + dc ≤ R.cells) (hs : slots + ds ≤ R.slots)
    (kk : ∀ (H' : Heap) (locs' : List Loc) (ls' : Array Slot), lv_has ls' nL (j_sl g lv') → j_H g ad B D cA cl s H' hp' → va_S (j_A B) s.heap H' locs' → W p l e R s m args below meth c H' locs' (cells + dc) (slots + ds) Q (F0 m pc' ls' (st'.map (j_rv g)))) : W p l e R s m args below meth c H locs cells slots Q (F0 m pc ls (st.map (j_rv g))) := by
  obtain ⟨hG, hx, hb, hml, hown, hts, hlocks, hname, hK, hSt, hKs, hBs⟩ := hC
  cases st with
  | nil => cases h
  | cons v r =>
    cases v with
    | int x =>
      change (match j_tsw pc dflt lo hi offs x.toInt with | some t => some (t, lv, r, hp, 0, 0) | none => none) = some _ at h
      split at h
      · rename_i t ht
        cases h
        rcases j_tsw_in ht with ⟨h1, h2⟩ | ⟨h1, h2, off, h3, h4⟩
        · exact lv_tableOut hx hb hd h1 h2 (kk H locs ls hl hH hS)
        · exact lv_tableIn hx hb hd h1 h2 h3 h4 (kk H locs ls hl hH hS)
      · cases h
    | _ => cases h
theorem j_s_lookupswitch {dflt : Int} {ps : Array (Int × Int)} (hC : j_Cx g ad B D cA cl TW zs ks own nm cc nL p s m args meth c) (hkd : j_kd cl TW df ∧ cl[99]? = none ∧ ∀ rr : vw_C, cl[4]? = some rr → rr.1 = "HundredWords$Row") (hd : decode cc pc = .ok (.lookupswitch dflt ps, len)) (hlk : j_lk own nm cl TW zs ks pc (.lookupswitch dflt ps, len, l1, l2, val, ty)) (h : jstep df nL pc (.lookupswitch dflt ps, len, l1, l2, val, ty) lv st hp = some (pc', lv', st', hp', dc, ds)) (hl : lv_has ls nL (j_sl g lv)) (hH : j_H g ad B D cA cl s H hp) (hS : va_S (j_A B) s.heap H locs) (hc : cells + dc ≤ R.cells) (hs : slots + ds ≤ R.slots)
    (kk : ∀ (H' : Heap) (locs' : List Loc) (ls' : Array Slot), lv_has ls' nL (j_sl g lv') → j_H g ad B D cA cl s H' hp' → va_S (j_A B) s.heap H' locs' → W p l e R s m args below meth c H' locs' (cells + dc) (slots + ds) Q (F0 m pc' ls' (st'.map (j_rv g)))) : W p l e R s m args below meth c H locs cells slots Q (F0 m pc ls (st.map (j_rv g))) := by
  obtain ⟨hG, hx, hb, hml, hown, hts, hlocks, hname, hK, hSt, hKs, hBs⟩ := hC
  cases st with
  | nil => cases h
  | cons v r =>
    cases v with
    | int x =>
      change (match j_lsw pc dflt ps x.toInt with | some t => some (t, lv, r, hp, 0, 0) | none => none) = some _ at h
      split at h
      · rename_i t ht
        cases h
        unfold j_lsw at ht
        split at ht
        · rename_i n hn
          cases ht
          exact lv_lookup hx hb hd hlk rfl (by rw [hn]; rfl) (kk H locs ls hl hH hS)
        · cases ht
      · cases h
    | _ => cases h
theorem j_s_getfield {i : Nat} (hC : j_Cx g ad B D cA cl TW zs ks own nm cc nL p s m args meth c) (hkd : j_kd cl TW df ∧ cl[99]? = none ∧ ∀ rr : vw_C, cl[4]? = some rr → rr.1 = "HundredWords$Row") (hd : decode cc pc = .ok (.getfield i, len)) (hlen : len = j_len (.getfield i)) (hlk : j_lk own nm cl TW zs ks pc (.getfield i, len, l1, l2, val, ty)) (h : jstep df nL pc (.getfield i, len, l1, l2, val, ty) lv st hp = some (pc', lv', st', hp', dc, ds)) (hl : lv_has ls nL (j_sl g lv)) (hH : j_H g ad B D cA cl s H hp) (hS : va_S (j_A B) s.heap H locs) (hc : cells + dc ≤ R.cells) (hs : slots + ds ≤ R.slots)
    (kk : ∀ (H' : Heap) (locs' : List Loc) (ls' : Array Slot), lv_has ls' nL (j_sl g lv') → j_H g ad B D cA cl s H' hp' → va_S (j_A B) s.heap H' locs' → W p l e R s m args below meth c H' locs' (cells + dc) (slots + ds) Q (F0 m pc' ls' (st'.map (j_rv g)))) : W p l e R s m args below meth c H locs cells slots Q (F0 m pc ls (st.map (j_rv g))) := by
  obtain ⟨hG, hx, hb, hml, hown, hts, hlocks, hname, hK, hSt, hKs, hBs⟩ := hC
  subst hlen
  obtain ⟨q, hq, hX⟩ := j_go_some h
  cases st with
  | nil => cases hq
  | cons v r =>
    cases v with
    | ref a =>
      change (match j_nth hp a with
        | some (false, ci, fs) => cond (Nat.beq ci l1 && (Nat.ble 9 a || Nat.beq ci 99)) (match j_nth fs l2 with | some v => some (v :: r) | none => none) none
        | _ => none) = some q at hq
      split at hq
      · rename_i ci fs ha
        rw [j_nth_eq] at ha
        cases hb1 : Nat.beq ci l1 && (Nat.ble 9 a || Nat.beq ci 99) with
        | false => rw [hb1] at hq; cases hq
        | true =>
          rw [hb1] at hq
          change (match j_nth fs l2 with | some v => some (v :: r) | none => none) = some q at hq
          split at hq
          · rename_i v hv
            rw [j_nth_eq] at hv
            cases hq
            cases hX
            rw [Bool.and_eq_true, Bool.or_eq_true] at hb1
            have e1 : ci = l1 := Nat.eq_of_beq_eq_true hb1.1
            have hin := hH.2.2.2 a _ ha
            have h8 : a ≠ 8 := fun e8 => by
              rw [e8, hH.2.2.1] at ha
              have e9 : ci = 98 := by
                have := Option.some.inj ha
                exact (congrArg (fun z : jc => z.2.1) this).symm
              rw [e8, e9] at hb1
              rcases hb1.2 with z | z <;> exact absurd z (by decide)
            have kk2 := kk H locs ls hl hH hS
            show W p l e R s m args below meth c H locs _ _ Q (F0 m pc ls (g a :: _))
            rw [hG.1 a h8]
            unfold j_in at hin
            rcases hlk with ⟨h1, h2, h3⟩ | ⟨h1, C, T, N, h2, h3, h4⟩
            · change l1 = 99 at h1
              by_cases hk : a < 9
              · rw [if_pos hk] at hin
                obtain ⟨-, -, q4, q5, -⟩ := hin.2 rfl (e1.trans h1)
                have hOF : va_OF "java/lang/String" (j_sf l2).1 (j_sf l2).2 (j_rv g v) (ad a) (j_A B) s H := by
                  have h2' : l2 < 2 := h2
                  match l2, h2', hv with
                  | 0, _, hv => exact q4 v hv
                  | 1, _, hv => exact q5 v hv
                obtain ⟨cf, k, fi, f, cell, g1, g2, g3, g4, g5, -⟩ := hOF
                exact W.getf hx hb hown (hts _ h3) g1 g2 g3 g4 (v := j_rv g v) g5 rfl rfl hd kk2
              · rw [if_neg hk] at hin
                obtain ⟨rr, g1, -, -⟩ := hin.2 rfl
                have z : cl[99]? = some rr := by rw [← h1, ← e1]; exact g1
                rw [hkd.2.1] at z
                cases z
            · change ¬ l1 = 99 at h1
              have hk : ¬ a < 9 := fun z => by
                rcases hb1.2 with y | y
                · exact absurd (Nat.le_of_ble_eq_true y) (Nat.not_le.mpr z)
                · exact h1 (e1.symm.trans (Nat.eq_of_beq_eq_true y))
              rw [if_neg hk] at hin
              obtain ⟨rr, g1, g2, cell, g3, g4, g5, g6⟩ := hin.2 rfl
              have hr : rr = (C, T, N) := Option.some.inj ((show cl[l1]? = some rr from e1 ▸ g1).symm.trans h2)
              subst hr
              obtain ⟨hSl, hfc, kC, hkC, hkind⟩ := hK.1 l1 _ h2
              obtain ⟨cf, kf, fi, f, hi, hsl⟩ := hSl l2 h3
              have hin2 := (hkd.1 l1 C T N h2).1
              have g7 : cell.slots[f.slot]? = some (j_rv g v) := by
                have g6' := g6 l2 h3
                subst e1
                rw [hsl, g6']
                simp [List.getD_eq_getElem?_getD, hv]
              have g8 : cell.vm ≠ .unknown := by rw [g5]; exact fun z => by cases z
              have g9 := (u_facts hfc hkC (u_lays hts hin2 h3) hi).1
              rcases h4 with h4 | ⟨host, h4⟩
              · exact W.getf hx hb hown (hts _ h4) hi g9 g3 g8 (v := j_rv g v) g7 rfl rfl hd kk2
              · exact va_Wgetf hx hb hown ((hKs.2 _ h4).2.use rfl) hi g9 g3 g8 (v := j_rv g v) g7 rfl rfl hd kk2
          · cases hq
      · cases hq
    | _ => cases hq
theorem j_s_putfield {i : Nat} (hC : j_Cx g ad B D cA cl TW zs ks own nm cc nL p s m args meth c) (hkd : j_kd cl TW df ∧ cl[99]? = none ∧ ∀ rr : vw_C, cl[4]? = some rr → rr.1 = "HundredWords$Row") (hd : decode cc pc = .ok (.putfield i, len)) (hlen : len = j_len (.putfield i)) (hlk : j_lk own nm cl TW zs ks pc (.putfield i, len, l1, l2, val, ty)) (h : jstep df nL pc (.putfield i, len, l1, l2, val, ty) lv st hp = some (pc', lv', st', hp', dc, ds)) (hl : lv_has ls nL (j_sl g lv)) (hH : j_H g ad B D cA cl s H hp) (hS : va_S (j_A B) s.heap H locs) (hc : cells + dc ≤ R.cells) (hs : slots + ds ≤ R.slots)
    (kk : ∀ (H' : Heap) (locs' : List Loc) (ls' : Array Slot), lv_has ls' nL (j_sl g lv') → j_H g ad B D cA cl s H' hp' → va_S (j_A B) s.heap H' locs' → W p l e R s m args below meth c H' locs' (cells + dc) (slots + ds) Q (F0 m pc' ls' (st'.map (j_rv g)))) : W p l e R s m args below meth c H locs cells slots Q (F0 m pc ls (st.map (j_rv g))) := by
  obtain ⟨hG, hx, hb, hml, hown, hts, hlocks, hname, hK, hSt, hKs, hBs⟩ := hC
  subst hlen
  cases st with
  | nil => cases h
  | cons v r0 =>
    cases r0 with
    | nil => cases v <;> cases h
    | cons v2 r =>
      cases v2 with
      | ref a =>
        have h' : (match j_nth hp a with
          | some (false, ci, fs) => cond (Nat.beq ci l1 && Nat.ble 9 a && j_fit ty v) (some (pc + 3, lv, r, j_set (false, ci, j_set v fs l2) hp a, 0, 0)) none
          | _ => none) = some (pc', lv', st', hp', dc, ds) := by
          cases v <;> exact h
        split at h'
        · rename_i ci fs ha
          rw [j_nth_eq] at ha
          cases hb1 : Nat.beq ci l1 && Nat.ble 9 a && j_fit ty v with
          | false => rw [hb1] at h'; cases h'
          | true =>
            rw [hb1] at h'
            cases h'
            rw [Bool.and_eq_true, Bool.and_eq_true] at hb1
            have e1 : ci = l1 := Nat.eq_of_beq_eq_true hb1.1.1
            subst e1
            have h9 := Nat.le_of_ble_eq_true hb1.1.2
            obtain ⟨hn, hfit⟩ := j_rv_fit g ad B hG hb1.2
            have hin := hH.2.2.2 a _ ha
            unfold j_in at hin
            rw [if_neg (by omega)] at hin
            obtain ⟨h1, C, T, N, h2, h3, h4, h5, h6⟩ := hlk
            obtain ⟨rr, g1, g2, cell, g3, g4, g5, g6⟩ := hin.2 rfl
            have hr : rr = (C, T, N) := Option.some.inj (g1.symm.trans h2)
            subst hr
            obtain ⟨hin2, ⟨ty0, hty, -⟩, hnm⟩ := hkd.1 ci C T N h2
            have hap := va_apart (own := own) hts hin2 ty0 hty hnm hK h2
            obtain ⟨hSl, hfc, kC, hkC, hkind⟩ := hK.1 ci _ h2
            obtain ⟨cf, kf, fi, f, hi, hsl⟩ := hSl l2 h3
            have hlay := hts _ (hin2 _ (u_in_lay h3))
            have hst := (u_facts hfc hkC (u_lays hts hin2 h3) hi).1
            have hlt : f.slot < cell.slots.size := by rw [hsl]; exact k2_hasslot (g6 l2 h3)
            have fin : ∀ H1 : Heap, H1[ad a]? = some (cell.setSlot f.slot (j_rv g v)) → H1.size = H.size → (∀ q, q ≠ ad a → H1[q]? = H[q]?) → W p l e R s m args below meth c H1 (locs ++ [⟨ad a, f.slot⟩]) cells slots Q (F0 m (pc + 3) ls (st'.map (j_rv g))) := by
              intro H1 e1 e2 e3
              refine kk H1 _ ls hl (hH.put hG ha h9 e2 e3 ?_) (hS.put e2 e3 (by show B ≤ ad a; rw [hG.2.2.1 a h9]; omega))
              unfold j_in
              rw [if_neg (by omega)]
              refine ⟨(fun z => by cases z), fun _ => ⟨_, h2, by rw [j_set_eq]; simp; exact g2, cell.setSlot f.slot (j_rv g v), e1, g4, g5, ?_⟩⟩
              rw [hsl]
              intro k hk
              have := t_set g6 hap h3 (j_rv g v) k hk
              rw [this]
              unfold updV
              rw [j_set_eq]
              by_cases hk2 : k = l2
              · subst hk2
                have : k < fs.length := by rw [g2]; exact hk
                simp [List.getD_eq_getElem?_getD, this]
              · simp [List.getD_eq_getElem?_getD, List.getElem?_set_ne (Ne.symm hk2), hk2]
            show W p l e R s m args below meth c H locs _ _ Q (F0 m pc ls (j_rv g v :: g a :: _))
            rw [hG.ref h9]
            unfold u_lay at hlay
            by_cases hf : (T l2).2.2.2 = true
            · rw [if_pos hf] at hlay
              obtain ⟨h7, h8⟩ := h6 hf
              have hcf : m.cls = cf := by
                obtain ⟨_, _, c', _, _, _, -, -, hf', -, -, -, hown2, -⟩ := Cond.laysFinal_spec hlay
                have e1 : c' = cf := by have := hi.symm.trans hf'; simp at this; exact this.1.symm
                rw [show (T l2).1 = own from h8] at hown2
                rw [← e1]; exact Option.some.inj (hown.symm.trans hown2)
              have h10 := u_fits hfc hkC hkind (Or.inr hlay) hi h5 hn hfit
              exact W.putFinK hx hb hown (hts _ h4) hi hst hcf (hname h7) (by rw [g4]; exact h10) g3 g5 hlt rfl rfl hd fin
            · rw [if_neg hf] at hlay
              have h10 := u_store hfc hkC hkind hlay hi h5 hn hfit
              exact W.putK hx hb (f := f) ⟨hown, hts _ h4, ⟨_, _, _, hi⟩, hst⟩ (by rw [g4]; exact h10) g3 g5 hlt rfl rfl hd fin
        · cases h'
      | _ => cases v <;> cases h
theorem j_s_getstatic {i : Nat} (hC : j_Cx g ad B D cA cl TW zs ks own nm cc nL p s m args meth c) (hkd : j_kd cl TW df ∧ cl[99]? = none ∧ ∀ rr : vw_C, cl[4]? = some rr → rr.1 = "HundredWords$Row") (hd : decode cc pc = .ok (.getstatic i, len)) (hlen : len = j_len (.getstatic i)) (hlk : j_lk own nm cl TW zs ks pc (.getstatic i, len, l1, l2, val, ty)) (h : jstep df nL pc (.getstatic i, len, l1, l2, val, ty) lv st hp = some (pc', lv', st', hp', dc, ds)) (hl : lv_has ls nL (j_sl g lv)) (hH : j_H g ad B D cA cl s H hp) (hS : va_S (j_A B) s.heap H locs) (hc : cells + dc ≤ R.cells) (hs : slots + ds ≤ R.slots)
    (kk : ∀ (H' : Heap) (locs' : List Loc) (ls' : Array Slot), lv_has ls' nL (j_sl g lv') → j_H g ad B D cA cl s H' hp' → va_S (j_A B) s.heap H' locs' → W p l e R s m args below meth c H' locs' (cells + dc) (slots + ds) Q (F0 m pc' ls' (st'.map (j_rv g)))) : W p l e R s m args below meth c H locs cells slots Q (F0 m pc ls (st.map (j_rv g))) := by
  obtain ⟨hG, hx, hb, hml, hown, hts, hlocks, hname, hK, hSt, hKs, hBs⟩ := hC
  subst hlen
  have h : j_go pc 3 lv hp (some (val :: st)) = some (pc', lv', st', hp', dc, ds) := h
  obtain ⟨q, hq, hX⟩ := j_go_some h
  cases hq
  cases hX
  obtain ⟨C, n, d, h1, h2⟩ := hlk
  exact va_gets hx hb (hSt _ h1) hS hown (hts _ h2) (fun _ z => z) hd (kk H locs ls hl hH hS)
theorem j_s_ldc2_w {i : Nat} (hC : j_Cx g ad B D cA cl TW zs ks own nm cc nL p s m args meth c) (hkd : j_kd cl TW df ∧ cl[99]? = none ∧ ∀ rr : vw_C, cl[4]? = some rr → rr.1 = "HundredWords$Row") (hd : decode cc pc = .ok (.ldc2_w i, len)) (hlen : len = j_len (.ldc2_w i)) (hlk : j_lk own nm cl TW zs ks pc (.ldc2_w i, len, l1, l2, val, ty)) (h : jstep df nL pc (.ldc2_w i, len, l1, l2, val, ty) lv st hp = some (pc', lv', st', hp', dc, ds)) (hl : lv_has ls nL (j_sl g lv)) (hH : j_H g ad B D cA cl s H hp) (hS : va_S (j_A B) s.heap H locs) (hc : cells + dc ≤ R.cells) (hs : slots + ds ≤ R.slots)
    (kk : ∀ (H' : Heap) (locs' : List Loc) (ls' : Array Slot), lv_has ls' nL (j_sl g lv') → j_H g ad B D cA cl s H' hp' → va_S (j_A B) s.heap H' locs' → W p l e R s m args below meth c H' locs' (cells + dc) (slots + ds) Q (F0 m pc' ls' (st'.map (j_rv g)))) : W p l e R s m args below meth c H locs cells slots Q (F0 m pc ls (st.map (j_rv g))) := by
  obtain ⟨hG, hx, hb, hml, hown, hts, hlocks, hname, hK, hSt, hKs, hBs⟩ := hC
  subst hlen
  have h : j_go pc 3 lv hp (some (val :: st)) = some (pc', lv', st', hp', dc, ds) := h
  obtain ⟨q, hq, hX⟩ := j_go_some h
  cases hq
  cases hX
  obtain ⟨x, h1, h2⟩ := hlk
  change val = .long x at h1
  subst h1
  exact lv_ldc2 hx hb hown (hts _ h2) hd (kk H locs ls hl hH hS)
theorem j_s_ldc {i : Nat} (hC : j_Cx g ad B D cA cl TW zs ks own nm cc nL p s m args meth c) (hkd : j_kd cl TW df ∧ cl[99]? = none ∧ ∀ rr : vw_C, cl[4]? = some rr → rr.1 = "HundredWords$Row") (hd : decode cc pc = .ok (.ldc i, len)) (hlen : len = j_len (.ldc i)) (hlk : j_lk own nm cl TW zs ks pc (.ldc i, len, l1, l2, val, ty)) (h : jstep df nL pc (.ldc i, len, l1, l2, val, ty) lv st hp = some (pc', lv', st', hp', dc, ds)) (hl : lv_has ls nL (j_sl g lv)) (hH : j_H g ad B D cA cl s H hp) (hS : va_S (j_A B) s.heap H locs) (hc : cells + dc ≤ R.cells) (hs : slots + ds ≤ R.slots)
    (kk : ∀ (H' : Heap) (locs' : List Loc) (ls' : Array Slot), lv_has ls' nL (j_sl g lv') → j_H g ad B D cA cl s H' hp' → va_S (j_A B) s.heap H' locs' → W p l e R s m args below meth c H' locs' (cells + dc) (slots + ds) Q (F0 m pc' ls' (st'.map (j_rv g)))) : W p l e R s m args below meth c H locs cells slots Q (F0 m pc ls (st.map (j_rv g))) := by
  obtain ⟨hG, hx, hb, hml, hown, hts, hlocks, hname, hK, hSt, hKs, hBs⟩ := hC
  subst hlen
  have h : j_go pc 2 lv hp (some (val :: st)) = some (pc', lv', st', hp', dc, ds) := h
  obtain ⟨q, hq, hX⟩ := j_go_some h
  cases hq
  cases hX
  obtain ⟨tx, h1⟩ := hlk
  obtain ⟨a, h2, h3⟩ := hKs.1 _ h1
  have kk2 := kk H locs ls hl hH hS
  change W p l e R s m args below meth c H locs _ _ Q (F0 m _ ls (j_rv g val :: st.map (j_rv g))) at kk2
  rw [show j_rv g val = .ref a from h2] at kk2
  exact va_ldcS hx hb hown h3 hd kk2
theorem j_s_arraylength (hC : j_Cx g ad B D cA cl TW zs ks own nm cc nL p s m args meth c) (hkd : j_kd cl TW df ∧ cl[99]? = none ∧ ∀ rr : vw_C, cl[4]? = some rr → rr.1 = "HundredWords$Row") (hd : decode cc pc = .ok (.arraylength, len)) (hlen : len = j_len (.arraylength)) (hlk : j_lk own nm cl TW zs ks pc (.arraylength, len, l1, l2, val, ty)) (h : jstep df nL pc (.arraylength, len, l1, l2, val, ty) lv st hp = some (pc', lv', st', hp', dc, ds)) (hl : lv_has ls nL (j_sl g lv)) (hH : j_H g ad B D cA cl s H hp) (hS : va_S (j_A B) s.heap H locs) (hc : cells + dc ≤ R.cells) (hs : slots + ds ≤ R.slots)
    (kk : ∀ (H' : Heap) (locs' : List Loc) (ls' : Array Slot), lv_has ls' nL (j_sl g lv') → j_H g ad B D cA cl s H' hp' → va_S (j_A B) s.heap H' locs' → W p l e R s m args below meth c H' locs' (cells + dc) (slots + ds) Q (F0 m pc' ls' (st'.map (j_rv g)))) : W p l e R s m args below meth c H locs cells slots Q (F0 m pc ls (st.map (j_rv g))) := by
  obtain ⟨hG, hx, hb, hml, hown, hts, hlocks, hname, hK, hSt, hKs, hBs⟩ := hC
  subst hlen
  obtain ⟨q, hq, hX⟩ := j_go_some h
  cases st with
  | nil => cases hq
  | cons v r =>
    cases v with
    | ref a =>
      change (match j_nth hp a with | some (true, _, l) => some (.int (Int32.ofNat l.length) :: r) | _ => none) = some q at hq
      split at hq
      · rename_i t la ha
        rw [j_nth_eq] at ha
        cases hq
        cases hX
        obtain ⟨cell, e1, e2, e3, e4, e5, e6, e7⟩ := j_arr hG hK hH ha
        show W p l e R s m args below meth c H locs _ _ Q (F0 m pc ls (g a :: _))
        rw [e1]
        exact W.alen hx hb e2 e3 e6 rfl rfl hd (kk H locs ls hl hH hS)
      · cases hq
    | _ => cases hq
theorem j_s_iaload (hC : j_Cx g ad B D cA cl TW zs ks own nm cc nL p s m args meth c) (hkd : j_kd cl TW df ∧ cl[99]? = none ∧ ∀ rr : vw_C, cl[4]? = some rr → rr.1 = "HundredWords$Row") (hd : decode cc pc = .ok (.iaload, len)) (hlen : len = j_len (.iaload)) (hlk : j_lk own nm cl TW zs ks pc (.iaload, len, l1, l2, val, ty)) (h : jstep df nL pc (.iaload, len, l1, l2, val, ty) lv st hp = some (pc', lv', st', hp', dc, ds)) (hl : lv_has ls nL (j_sl g lv)) (hH : j_H g ad B D cA cl s H hp) (hS : va_S (j_A B) s.heap H locs) (hc : cells + dc ≤ R.cells) (hs : slots + ds ≤ R.slots)
    (kk : ∀ (H' : Heap) (locs' : List Loc) (ls' : Array Slot), lv_has ls' nL (j_sl g lv') → j_H g ad B D cA cl s H' hp' → va_S (j_A B) s.heap H' locs' → W p l e R s m args below meth c H' locs' (cells + dc) (slots + ds) Q (F0 m pc' ls' (st'.map (j_rv g)))) : W p l e R s m args below meth c H locs cells slots Q (F0 m pc ls (st.map (j_rv g))) := by
  obtain ⟨hG, hx, hb, hml, hown, hts, hlocks, hname, hK, hSt, hKs, hBs⟩ := hC
  subst hlen
  obtain ⟨q, hq, hX⟩ := j_go_some h
  obtain ⟨i, a, r, t, la, v, rfl, ha, ht, hi, hv, rfl⟩ := j_ald_some hq
  cases hX
  have ht' : t = 0 := by simpa using ht
  subst ht'
  obtain ⟨cell, e1, e2, e3, e4, e5, e6, e7⟩ := j_arr hG hK hH ha
  show W p l e R s m args below meth c H locs _ _ Q (F0 m pc ls (.int i :: g a :: _))
  rw [e1]
  have hlt := (List.getElem?_eq_some_iff.mp hv).1
  exact W.iald (v := j_rv g v) hx hb e2 e3 e4 (fun z => z.elim hi (fun z => by omega)) (e7 _ _ hv) rfl rfl hd (kk H locs ls hl hH hS)
theorem j_s_laload (hC : j_Cx g ad B D cA cl TW zs ks own nm cc nL p s m args meth c) (hkd : j_kd cl TW df ∧ cl[99]? = none ∧ ∀ rr : vw_C, cl[4]? = some rr → rr.1 = "HundredWords$Row") (hd : decode cc pc = .ok (.laload, len)) (hlen : len = j_len (.laload)) (hlk : j_lk own nm cl TW zs ks pc (.laload, len, l1, l2, val, ty)) (h : jstep df nL pc (.laload, len, l1, l2, val, ty) lv st hp = some (pc', lv', st', hp', dc, ds)) (hl : lv_has ls nL (j_sl g lv)) (hH : j_H g ad B D cA cl s H hp) (hS : va_S (j_A B) s.heap H locs) (hc : cells + dc ≤ R.cells) (hs : slots + ds ≤ R.slots)
    (kk : ∀ (H' : Heap) (locs' : List Loc) (ls' : Array Slot), lv_has ls' nL (j_sl g lv') → j_H g ad B D cA cl s H' hp' → va_S (j_A B) s.heap H' locs' → W p l e R s m args below meth c H' locs' (cells + dc) (slots + ds) Q (F0 m pc' ls' (st'.map (j_rv g)))) : W p l e R s m args below meth c H locs cells slots Q (F0 m pc ls (st.map (j_rv g))) := by
  obtain ⟨hG, hx, hb, hml, hown, hts, hlocks, hname, hK, hSt, hKs, hBs⟩ := hC
  subst hlen
  obtain ⟨q, hq, hX⟩ := j_go_some h
  obtain ⟨i, a, r, t, la, v, rfl, ha, ht, hi, hv, rfl⟩ := j_ald_some hq
  cases hX
  have ht' : t = 1 := by simpa using ht
  subst ht'
  obtain ⟨cell, e1, e2, e3, e4, e5, e6, e7⟩ := j_arr hG hK hH ha
  show W p l e R s m args below meth c H locs _ _ Q (F0 m pc ls (.int i :: g a :: _))
  rw [e1]
  have hlt := (List.getElem?_eq_some_iff.mp hv).1
  exact W.lald (v := j_rv g v) hx hb e2 e3 e4 (fun z => z.elim hi (fun z => by omega)) (e7 _ _ hv) rfl rfl hd (kk H locs ls hl hH hS)
theorem j_s_caload (hC : j_Cx g ad B D cA cl TW zs ks own nm cc nL p s m args meth c) (hkd : j_kd cl TW df ∧ cl[99]? = none ∧ ∀ rr : vw_C, cl[4]? = some rr → rr.1 = "HundredWords$Row") (hd : decode cc pc = .ok (.caload, len)) (hlen : len = j_len (.caload)) (hlk : j_lk own nm cl TW zs ks pc (.caload, len, l1, l2, val, ty)) (h : jstep df nL pc (.caload, len, l1, l2, val, ty) lv st hp = some (pc', lv', st', hp', dc, ds)) (hl : lv_has ls nL (j_sl g lv)) (hH : j_H g ad B D cA cl s H hp) (hS : va_S (j_A B) s.heap H locs) (hc : cells + dc ≤ R.cells) (hs : slots + ds ≤ R.slots)
    (kk : ∀ (H' : Heap) (locs' : List Loc) (ls' : Array Slot), lv_has ls' nL (j_sl g lv') → j_H g ad B D cA cl s H' hp' → va_S (j_A B) s.heap H' locs' → W p l e R s m args below meth c H' locs' (cells + dc) (slots + ds) Q (F0 m pc' ls' (st'.map (j_rv g)))) : W p l e R s m args below meth c H locs cells slots Q (F0 m pc ls (st.map (j_rv g))) := by
  obtain ⟨hG, hx, hb, hml, hown, hts, hlocks, hname, hK, hSt, hKs, hBs⟩ := hC
  subst hlen
  obtain ⟨q, hq, hX⟩ := j_go_some h
  obtain ⟨i, a, r, t, la, v, rfl, ha, ht, hi, hv, rfl⟩ := j_ald_some hq
  cases hX
  have ht' : t = 2 := by simpa using ht
  subst ht'
  obtain ⟨cell, e1, e2, e3, e4, e5, e6, e7⟩ := j_arr hG hK hH ha
  show W p l e R s m args below meth c H locs _ _ Q (F0 m pc ls (.int i :: g a :: _))
  rw [e1]
  have hlt := (List.getElem?_eq_some_iff.mp hv).1
  exact W.cald (v := j_rv g v) hx hb e2 e3 e4 (fun z => z.elim hi (fun z => by omega)) (e7 _ _ hv) rfl rfl hd (kk H locs ls hl hH hS)
theorem j_s_aaload (hC : j_Cx g ad B D cA cl TW zs ks own nm cc nL p s m args meth c) (hkd : j_kd cl TW df ∧ cl[99]? = none ∧ ∀ rr : vw_C, cl[4]? = some rr → rr.1 = "HundredWords$Row") (hd : decode cc pc = .ok (.aaload, len)) (hlen : len = j_len (.aaload)) (hlk : j_lk own nm cl TW zs ks pc (.aaload, len, l1, l2, val, ty)) (h : jstep df nL pc (.aaload, len, l1, l2, val, ty) lv st hp = some (pc', lv', st', hp', dc, ds)) (hl : lv_has ls nL (j_sl g lv)) (hH : j_H g ad B D cA cl s H hp) (hS : va_S (j_A B) s.heap H locs) (hc : cells + dc ≤ R.cells) (hs : slots + ds ≤ R.slots)
    (kk : ∀ (H' : Heap) (locs' : List Loc) (ls' : Array Slot), lv_has ls' nL (j_sl g lv') → j_H g ad B D cA cl s H' hp' → va_S (j_A B) s.heap H' locs' → W p l e R s m args below meth c H' locs' (cells + dc) (slots + ds) Q (F0 m pc' ls' (st'.map (j_rv g)))) : W p l e R s m args below meth c H locs cells slots Q (F0 m pc ls (st.map (j_rv g))) := by
  obtain ⟨hG, hx, hb, hml, hown, hts, hlocks, hname, hK, hSt, hKs, hBs⟩ := hC
  subst hlen
  obtain ⟨q, hq, hX⟩ := j_go_some h
  obtain ⟨i, a, r, t, la, v, rfl, ha, ht, hi, hv, rfl⟩ := j_ald_some hq
  cases hX
  have ht' : t = 4 := by simpa using ht
  subst ht'
  obtain ⟨cell, e1, e2, e3, e4, e5, e6, e7⟩ := j_arr hG hK hH ha
  show W p l e R s m args below meth c H locs _ _ Q (F0 m pc ls (.int i :: g a :: _))
  rw [e1]
  have hlt := (List.getElem?_eq_some_iff.mp hv).1
  exact W.aald (v := j_rv g v) hx hb e2 e3 rfl e4 (fun z => z.elim hi (fun z => by omega)) (e7 _ _ hv) rfl rfl hd (kk H locs ls hl hH hS)
theorem j_s_baload (hC : j_Cx g ad B D cA cl TW zs ks own nm cc nL p s m args meth c) (hkd : j_kd cl TW df ∧ cl[99]? = none ∧ ∀ rr : vw_C, cl[4]? = some rr → rr.1 = "HundredWords$Row") (hd : decode cc pc = .ok (.baload, len)) (hlen : len = j_len (.baload)) (hlk : j_lk own nm cl TW zs ks pc (.baload, len, l1, l2, val, ty)) (h : jstep df nL pc (.baload, len, l1, l2, val, ty) lv st hp = some (pc', lv', st', hp', dc, ds)) (hl : lv_has ls nL (j_sl g lv)) (hH : j_H g ad B D cA cl s H hp) (hS : va_S (j_A B) s.heap H locs) (hc : cells + dc ≤ R.cells) (hs : slots + ds ≤ R.slots)
    (kk : ∀ (H' : Heap) (locs' : List Loc) (ls' : Array Slot), lv_has ls' nL (j_sl g lv') → j_H g ad B D cA cl s H' hp' → va_S (j_A B) s.heap H' locs' → W p l e R s m args below meth c H' locs' (cells + dc) (slots + ds) Q (F0 m pc' ls' (st'.map (j_rv g)))) : W p l e R s m args below meth c H locs cells slots Q (F0 m pc ls (st.map (j_rv g))) := by
  obtain ⟨hG, hx, hb, hml, hown, hts, hlocks, hname, hK, hSt, hKs, hBs⟩ := hC
  subst hlen
  obtain ⟨q, hq, hX⟩ := j_go_some h
  obtain ⟨i, a, r, t, la, v, rfl, ha, ht, hi, hv, rfl⟩ := j_ald_some hq
  cases hX
  obtain ⟨cell, e1, e2, e3, e4, e5, e6, e7⟩ := j_arr hG hK hH ha
  show W p l e R s m args below meth c H locs _ _ Q (F0 m pc ls (.int i :: g a :: _))
  rw [e1]
  have hlt := (List.getElem?_eq_some_iff.mp hv).1
  have ht' : t = 3 ∨ t = 5 := by simpa using ht
  rcases ht' with rfl | rfl
  · exact W.zald (v := j_rv g v) hx hb e2 e3 e4 (fun z => z.elim hi (fun z => by omega)) (e7 _ _ hv) rfl rfl hd (kk H locs ls hl hH hS)
  · exact W.bald (v := j_rv g v) hx hb e2 e3 e4 (fun z => z.elim hi (fun z => by omega)) (e7 _ _ hv) rfl rfl hd (kk H locs ls hl hH hS)
theorem j_s_iastore (hC : j_Cx g ad B D cA cl TW zs ks own nm cc nL p s m args meth c) (hkd : j_kd cl TW df ∧ cl[99]? = none ∧ ∀ rr : vw_C, cl[4]? = some rr → rr.1 = "HundredWords$Row") (hd : decode cc pc = .ok (.iastore, len)) (hlen : len = j_len (.iastore)) (hlk : j_lk own nm cl TW zs ks pc (.iastore, len, l1, l2, val, ty)) (h : jstep df nL pc (.iastore, len, l1, l2, val, ty) lv st hp = some (pc', lv', st', hp', dc, ds)) (hl : lv_has ls nL (j_sl g lv)) (hH : j_H g ad B D cA cl s H hp) (hS : va_S (j_A B) s.heap H locs) (hc : cells + dc ≤ R.cells) (hs : slots + ds ≤ R.slots)
    (kk : ∀ (H' : Heap) (locs' : List Loc) (ls' : Array Slot), lv_has ls' nL (j_sl g lv') → j_H g ad B D cA cl s H' hp' → va_S (j_A B) s.heap H' locs' → W p l e R s m args below meth c H' locs' (cells + dc) (slots + ds) Q (F0 m pc' ls' (st'.map (j_rv g)))) : W p l e R s m args below meth c H locs cells slots Q (F0 m pc ls (st.map (j_rv g))) := by
  obtain ⟨hG, hx, hb, hml, hown, hts, hlocks, hname, hK, hSt, hKs, hBs⟩ := hC
  subst hlen
  cases st with
  | nil => cases h
  | cons v r0 =>
    cases v with
    | int x =>
      cases r0 with
      | nil => cases h
      | cons v2 r1 =>
        cases v2 with
        | int i =>
          cases r1 with
          | nil => cases h
          | cons v3 r =>
            cases v3 with
            | ref a =>
              change (match j_ast hp a 0 i (.int x) with | some hp' => some (pc + 1, lv, r, hp', 0, 0) | none => none) = some _ at h
              split at h
              · rename_i hp2 hq
                cases h
                obtain ⟨la, ha, h9, hi, hlt, rfl⟩ := j_ast_some hq
                obtain ⟨cell, e1, e2, e3, e4, e5, e6, e7⟩ := j_arr hG hK hH ha
                show W p l e R s m args below meth c H locs _ _ Q (F0 m pc ls (.int x :: .int i :: g a :: _))
                rw [e1]
                refine W.iast hx hb e2 e3 e4 (fun z => z.elim hi (fun z => by omega)) rfl rfl hd (fun H1 f1 f2 f3 => ?_)
                refine kk H1 _ ls hl (j_stored (v := .int x) hG hH ha h9 hlt f2 f3 (fun cell2 hc2 => ?_)) (hS.put f2 f3 (by show B ≤ ad a; rw [hG.2.2.1 a h9]; omega))
                cases hc2.symm.trans e2
                exact f1
              · cases h
            | _ => cases h
        | _ => cases h
    | _ => cases h
theorem j_s_lastore (hC : j_Cx g ad B D cA cl TW zs ks own nm cc nL p s m args meth c) (hkd : j_kd cl TW df ∧ cl[99]? = none ∧ ∀ rr : vw_C, cl[4]? = some rr → rr.1 = "HundredWords$Row") (hd : decode cc pc = .ok (.lastore, len)) (hlen : len = j_len (.lastore)) (hlk : j_lk own nm cl TW zs ks pc (.lastore, len, l1, l2, val, ty)) (h : jstep df nL pc (.lastore, len, l1, l2, val, ty) lv st hp = some (pc', lv', st', hp', dc, ds)) (hl : lv_has ls nL (j_sl g lv)) (hH : j_H g ad B D cA cl s H hp) (hS : va_S (j_A B) s.heap H locs) (hc : cells + dc ≤ R.cells) (hs : slots + ds ≤ R.slots)
    (kk : ∀ (H' : Heap) (locs' : List Loc) (ls' : Array Slot), lv_has ls' nL (j_sl g lv') → j_H g ad B D cA cl s H' hp' → va_S (j_A B) s.heap H' locs' → W p l e R s m args below meth c H' locs' (cells + dc) (slots + ds) Q (F0 m pc' ls' (st'.map (j_rv g)))) : W p l e R s m args below meth c H locs cells slots Q (F0 m pc ls (st.map (j_rv g))) := by
  obtain ⟨hG, hx, hb, hml, hown, hts, hlocks, hname, hK, hSt, hKs, hBs⟩ := hC
  subst hlen
  cases st with
  | nil => cases h
  | cons v r0 =>
    cases v with
    | long x =>
      cases r0 with
      | nil => cases h
      | cons v2 r1 =>
        cases v2 with
        | int i =>
          cases r1 with
          | nil => cases h
          | cons v3 r =>
            cases v3 with
            | ref a =>
              change (match j_ast hp a 1 i (.long x) with | some hp' => some (pc + 1, lv, r, hp', 0, 0) | none => none) = some _ at h
              split at h
              · rename_i hp2 hq
                cases h
                obtain ⟨la, ha, h9, hi, hlt, rfl⟩ := j_ast_some hq
                obtain ⟨cell, e1, e2, e3, e4, e5, e6, e7⟩ := j_arr hG hK hH ha
                show W p l e R s m args below meth c H locs _ _ Q (F0 m pc ls (.long x :: .int i :: g a :: _))
                rw [e1]
                refine W.last hx hb e2 e3 e4 (fun z => z.elim hi (fun z => by omega)) rfl rfl hd (fun H1 f1 f2 f3 => ?_)
                refine kk H1 _ ls hl (j_stored (v := .long x) hG hH ha h9 hlt f2 f3 (fun cell2 hc2 => ?_)) (hS.put f2 f3 (by show B ≤ ad a; rw [hG.2.2.1 a h9]; omega))
                cases hc2.symm.trans e2
                exact f1
              · cases h
            | _ => cases h
        | _ => cases h
    | _ => cases h
theorem j_s_castore (hC : j_Cx g ad B D cA cl TW zs ks own nm cc nL p s m args meth c) (hkd : j_kd cl TW df ∧ cl[99]? = none ∧ ∀ rr : vw_C, cl[4]? = some rr → rr.1 = "HundredWords$Row") (hd : decode cc pc = .ok (.castore, len)) (hlen : len = j_len (.castore)) (hlk : j_lk own nm cl TW zs ks pc (.castore, len, l1, l2, val, ty)) (h : jstep df nL pc (.castore, len, l1, l2, val, ty) lv st hp = some (pc', lv', st', hp', dc, ds)) (hl : lv_has ls nL (j_sl g lv)) (hH : j_H g ad B D cA cl s H hp) (hS : va_S (j_A B) s.heap H locs) (hc : cells + dc ≤ R.cells) (hs : slots + ds ≤ R.slots)
    (kk : ∀ (H' : Heap) (locs' : List Loc) (ls' : Array Slot), lv_has ls' nL (j_sl g lv') → j_H g ad B D cA cl s H' hp' → va_S (j_A B) s.heap H' locs' → W p l e R s m args below meth c H' locs' (cells + dc) (slots + ds) Q (F0 m pc' ls' (st'.map (j_rv g)))) : W p l e R s m args below meth c H locs cells slots Q (F0 m pc ls (st.map (j_rv g))) := by
  obtain ⟨hG, hx, hb, hml, hown, hts, hlocks, hname, hK, hSt, hKs, hBs⟩ := hC
  subst hlen
  cases st with
  | nil => cases h
  | cons v r0 =>
    cases v with
    | int x =>
      cases r0 with
      | nil => cases h
      | cons v2 r1 =>
        cases v2 with
        | int i =>
          cases r1 with
          | nil => cases h
          | cons v3 r =>
            cases v3 with
            | ref a =>
              change (match j_ast hp a 2 i (narrow .char (.int x)) with | some hp' => some (pc + 1, lv, r, hp', 0, 0) | none => none) = some _ at h
              split at h
              · rename_i hp2 hq
                cases h
                obtain ⟨la, ha, h9, hi, hlt, rfl⟩ := j_ast_some hq
                obtain ⟨cell, e1, e2, e3, e4, e5, e6, e7⟩ := j_arr hG hK hH ha
                show W p l e R s m args below meth c H locs _ _ Q (F0 m pc ls (.int x :: .int i :: g a :: _))
                rw [e1]
                refine W.cast hx hb e2 e3 e4 (fun z => z.elim hi (fun z => by omega)) rfl rfl hd (fun H1 f1 f2 f3 => ?_)
                refine kk H1 _ ls hl (j_stored (v := narrow .char (.int x)) hG hH ha h9 hlt f2 f3 (fun cell2 hc2 => ?_)) (hS.put f2 f3 (by show B ≤ ad a; rw [hG.2.2.1 a h9]; omega))
                cases hc2.symm.trans e2
                exact f1
              · cases h
            | _ => cases h
        | _ => cases h
    | _ => cases h
theorem j_s_bastore (hC : j_Cx g ad B D cA cl TW zs ks own nm cc nL p s m args meth c) (hkd : j_kd cl TW df ∧ cl[99]? = none ∧ ∀ rr : vw_C, cl[4]? = some rr → rr.1 = "HundredWords$Row") (hd : decode cc pc = .ok (.bastore, len)) (hlen : len = j_len (.bastore)) (hlk : j_lk own nm cl TW zs ks pc (.bastore, len, l1, l2, val, ty)) (h : jstep df nL pc (.bastore, len, l1, l2, val, ty) lv st hp = some (pc', lv', st', hp', dc, ds)) (hl : lv_has ls nL (j_sl g lv)) (hH : j_H g ad B D cA cl s H hp) (hS : va_S (j_A B) s.heap H locs) (hc : cells + dc ≤ R.cells) (hs : slots + ds ≤ R.slots)
    (kk : ∀ (H' : Heap) (locs' : List Loc) (ls' : Array Slot), lv_has ls' nL (j_sl g lv') → j_H g ad B D cA cl s H' hp' → va_S (j_A B) s.heap H' locs' → W p l e R s m args below meth c H' locs' (cells + dc) (slots + ds) Q (F0 m pc' ls' (st'.map (j_rv g)))) : W p l e R s m args below meth c H locs cells slots Q (F0 m pc ls (st.map (j_rv g))) := by
  obtain ⟨hG, hx, hb, hml, hown, hts, hlocks, hname, hK, hSt, hKs, hBs⟩ := hC
  subst hlen
  cases st with
  | nil => cases h
  | cons v r0 =>
    cases v with
    | int x =>
      cases r0 with
      | nil => cases h
      | cons v2 r1 =>
        cases v2 with
        | int i =>
          cases r1 with
          | nil => cases h
          | cons v3 r =>
            cases v3 with
            | ref a =>
              change (match j_ast hp a 3 i (narrow .boolean (.int x)) with | some hp' => some (pc + 1, lv, r, hp', 0, 0) | none => none) = some _ at h
              split at h
              · rename_i hp2 hq
                cases h
                obtain ⟨la, ha, h9, hi, hlt, rfl⟩ := j_ast_some hq
                obtain ⟨cell, e1, e2, e3, e4, e5, e6, e7⟩ := j_arr hG hK hH ha
                show W p l e R s m args below meth c H locs _ _ Q (F0 m pc ls (.int x :: .int i :: g a :: _))
                rw [e1]
                refine W.zast hx hb e2 e3 e4 (fun z => z.elim hi (fun z => by omega)) rfl rfl hd (fun H1 f1 f2 f3 => ?_)
                refine kk H1 _ ls hl (j_stored (v := narrow .boolean (.int x)) hG hH ha h9 hlt f2 f3 (fun cell2 hc2 => ?_)) (hS.put f2 f3 (by show B ≤ ad a; rw [hG.2.2.1 a h9]; omega))
                cases hc2.symm.trans e2
                exact f1
              · cases h
            | _ => cases h
        | _ => cases h
    | _ => cases h
theorem j_s_aastore (hC : j_Cx g ad B D cA cl TW zs ks own nm cc nL p s m args meth c) (hkd : j_kd cl TW df ∧ cl[99]? = none ∧ ∀ rr : vw_C, cl[4]? = some rr → rr.1 = "HundredWords$Row") (hd : decode cc pc = .ok (.aastore, len)) (hlen : len = j_len (.aastore)) (hlk : j_lk own nm cl TW zs ks pc (.aastore, len, l1, l2, val, ty)) (h : jstep df nL pc (.aastore, len, l1, l2, val, ty) lv st hp = some (pc', lv', st', hp', dc, ds)) (hl : lv_has ls nL (j_sl g lv)) (hH : j_H g ad B D cA cl s H hp) (hS : va_S (j_A B) s.heap H locs) (hc : cells + dc ≤ R.cells) (hs : slots + ds ≤ R.slots)
    (kk : ∀ (H' : Heap) (locs' : List Loc) (ls' : Array Slot), lv_has ls' nL (j_sl g lv') → j_H g ad B D cA cl s H' hp' → va_S (j_A B) s.heap H' locs' → W p l e R s m args below meth c H' locs' (cells + dc) (slots + ds) Q (F0 m pc' ls' (st'.map (j_rv g)))) : W p l e R s m args below meth c H locs cells slots Q (F0 m pc ls (st.map (j_rv g))) := by
  obtain ⟨hG, hx, hb, hml, hown, hts, hlocks, hname, hK, hSt, hKs, hBs⟩ := hC
  subst hlen
  cases st with
  | nil => cases h
  | cons v r0 =>
    cases v with
    | ref x =>
      cases r0 with
      | nil => cases h
      | cons v2 r1 =>
        cases v2 with
        | int i =>
          cases r1 with
          | nil => cases h
          | cons v3 r =>
            cases v3 with
            | ref a =>
              change (match j_nth hp x with
                | some (false, ci, _) => cond (Nat.beq ci 4 && Nat.ble 9 x) (match j_ast hp a 4 i (.ref x) with | some hp' => some (pc + 1, lv, r, hp', 0, 0) | none => none) none
                | _ => none) = some _ at h
              split at h
              · rename_i ci fs hvx
                rw [j_nth_eq] at hvx
                cases hb1 : Nat.beq ci 4 && Nat.ble 9 x with
                | false => rw [hb1] at h; cases h
                | true =>
                  rw [hb1] at h
                  change (match j_ast hp a 4 i (.ref x) with | some hp' => some (pc + 1, lv, r, hp', 0, 0) | none => none) = some _ at h
                  rw [Bool.and_eq_true] at hb1
                  have e0 : ci = 4 := Nat.eq_of_beq_eq_true hb1.1
                  subst e0
                  have h9x := Nat.le_of_ble_eq_true hb1.2
                  split at h
                  · rename_i hp2 hq
                    cases h
                    obtain ⟨la, ha, h9, hi, hlt, rfl⟩ := j_ast_some hq
                    have hinx := hH.2.2.2 x _ hvx
                    unfold j_in at hinx
                    rw [if_neg (by omega)] at hinx
                    obtain ⟨rr, g1, g2, cellx, g3, g4, g5, g6⟩ := hinx.2 rfl
                    have hina := hH.2.2.2 a _ ha
                    unfold j_in at hina
                    rw [if_neg (by omega)] at hina
                    obtain ⟨ht, e2⟩ := hina.1 rfl
                    obtain ⟨kA, comp, q1, q2, q3, -⟩ : va_RA s (cA 4) (.object "HundredWords$Row") := (hK.2 4 _ (j_tys_at cA (by omega))).2
                    obtain ⟨hSl, hfc, kC, hkC, hkind⟩ := hK.1 4 _ g1
                    have hC4 : rr.1 = "HundredWords$Row" := hkd.2.2 rr g1
                    have hcomp : comp = D.1 4 := Option.some.inj (q3.symm.trans (by rw [← hC4]; exact hfc))
                    subst hcomp
                    show W p l e R s m args below meth c H locs _ _ Q (F0 m pc ls (g x :: .int i :: g a :: _))
                    rw [hG.ref h9x, hG.ref h9]
                    refine W.aast hx hb e2 (fun q z => by cases z) (fun z => by cases z) q1 q2 rfl hkC ⟨hi, by rw [arrV_size]; exact hlt⟩ g3 (fun q z => by rw [g5] at z; cases z) (by rw [g4]; exact hkC) (by rw [g4]; exact va_asg _ _) rfl rfl hd (fun H1 f1 f2 f3 => ?_)
                    refine kk H1 _ ls hl (j_stored (v := .ref x) hG hH ha h9 hlt f2 f3 (fun cell2 hc2 => ?_)) (hS.put f2 f3 (by show B ≤ ad a; rw [hG.2.2.1 a h9]; omega))
                    cases hc2.symm.trans e2
                    show _ = some (Cell.setSlot _ _ (g x))
                    rw [hG.ref h9x]
                    exact f1
                  · cases h
              · cases h
            | _ => cases h
        | _ => cases h
    | _ => cases h
theorem j_s_new {i : Nat} (hC : j_Cx g ad B D cA cl TW zs ks own nm cc nL p s m args meth c) (hkd : j_kd cl TW df ∧ cl[99]? = none ∧ ∀ rr : vw_C, cl[4]? = some rr → rr.1 = "HundredWords$Row") (hd : decode cc pc = .ok (.new i, len)) (hlen : len = j_len (.new i)) (hlk : j_lk own nm cl TW zs ks pc (.new i, len, l1, l2, val, ty)) (h : jstep df nL pc (.new i, len, l1, l2, val, ty) lv st hp = some (pc', lv', st', hp', dc, ds)) (hl : lv_has ls nL (j_sl g lv)) (hH : j_H g ad B D cA cl s H hp) (hS : va_S (j_A B) s.heap H locs) (hc : cells + dc ≤ R.cells) (hs : slots + ds ≤ R.slots)
    (kk : ∀ (H' : Heap) (locs' : List Loc) (ls' : Array Slot), lv_has ls' nL (j_sl g lv') → j_H g ad B D cA cl s H' hp' → va_S (j_A B) s.heap H' locs' → W p l e R s m args below meth c H' locs' (cells + dc) (slots + ds) Q (F0 m pc' ls' (st'.map (j_rv g)))) : W p l e R s m args below meth c H locs cells slots Q (F0 m pc ls (st.map (j_rv g))) := by
  obtain ⟨hG, hx, hb, hml, hown, hts, hlocks, hname, hK, hSt, hKs, hBs⟩ := hC
  subst hlen
  cases h
  obtain ⟨C, T, N, h1, h2, h3, h4⟩ := hlk
  change cl[l1]? = some (C, T, N) at h1
  obtain ⟨hin2, ⟨ty0, hty, hdl, hdv⟩, hnm⟩ := hkd.1 l1 C T N h1
  obtain ⟨hSl, hfc, kC0, hkC0, hkind⟩ := hK.1 l1 _ h1
  have hsz := hH.2.1
  have had := j_H_ad hG hH
  rw [hdl] at hs
  refine W.newcK hx hb hown (hts _ h2) (hts _ h3) (hts _ h4) rfl hd hc hs hfc rfl (fun H1 kC e0 e1 e2 e3 => ?_)
  cases hkC0.symm.trans e0
  have kk2 := kk H1 locs ls hl (hH.push hG e2 e3 ?_) ⟨by rw [e2]; exact Nat.le_succ_of_le hS.1, fun q q1 q2 => (e3 q (Nat.lt_of_lt_of_le q1 hS.1)).trans (hS.2.1 q q1 q2), hS.2.2⟩
  · change W p l e R s m args below meth c H1 locs _ _ Q (F0 m _ ls (g hp.length :: st.map (j_rv g))) at kk2
    rw [hG.ref hH.1, had, hdl] at kk2
    exact kk2
  · unfold j_in
    rw [if_neg (by have := hH.1; omega)]
    refine ⟨(fun z => by cases z), fun _ => ⟨_, h1, hdl, blank (D.1 l1) kC0, by rw [had]; exact e1, rfl, rfl, fun k hk => ?_⟩⟩
    obtain ⟨cf, kf, fi, f, hi, hsl⟩ := hSl k hk
    obtain ⟨-, -, hty2⟩ := u_facts hfc hkC0 (u_lays hts hin2 hk) hi
    have hdk := hdv k hk
    show (kC0.instanceTypes.map defaultValue)[D.2 l1 k]? = some (j_rv g ((df l1).getD k .null))
    rw [← hsl, Array.getElem?_map, hty2, (State.fieldFound?_type hi (hty k hk)).2]
    simp only [Option.map_some, List.getD_eq_getElem?_getD, hdk, Option.getD_some]
    congr 1
    cases ty0 k <;> rfl
theorem j_s_newarray {t : ArrayType} (hC : j_Cx g ad B D cA cl TW zs ks own nm cc nL p s m args meth c) (hkd : j_kd cl TW df ∧ cl[99]? = none ∧ ∀ rr : vw_C, cl[4]? = some rr → rr.1 = "HundredWords$Row") (hd : decode cc pc = .ok (.newarray t, len)) (hlen : len = j_len (.newarray t)) (hlk : j_lk own nm cl TW zs ks pc (.newarray t, len, l1, l2, val, ty)) (h : jstep df nL pc (.newarray t, len, l1, l2, val, ty) lv st hp = some (pc', lv', st', hp', dc, ds)) (hl : lv_has ls nL (j_sl g lv)) (hH : j_H g ad B D cA cl s H hp) (hS : va_S (j_A B) s.heap H locs) (hc : cells + dc ≤ R.cells) (hs : slots + ds ≤ R.slots)
    (kk : ∀ (H' : Heap) (locs' : List Loc) (ls' : Array Slot), lv_has ls' nL (j_sl g lv') → j_H g ad B D cA cl s H' hp' → va_S (j_A B) s.heap H' locs' → W p l e R s m args below meth c H' locs' (cells + dc) (slots + ds) Q (F0 m pc' ls' (st'.map (j_rv g)))) : W p l e R s m args below meth c H locs cells slots Q (F0 m pc ls (st.map (j_rv g))) := by
  obtain ⟨hG, hx, hb, hml, hown, hts, hlocks, hname, hK, hSt, hKs, hBs⟩ := hC
  subst hlen
  cases st with
  | nil => cases h
  | cons v r =>
    cases v with
    | int n =>
      change (if n < 0 then none else cond (Nat.ble n.toNatClampNeg 60000000) (some (pc + 2, lv, .ref hp.length :: r, hp ++ [(true, l1, List.replicate n.toNatClampNeg val)], 1, n.toNatClampNeg)) none) = some _ at h
      split at h
      · cases h
      · rename_i hn
        cases hb1 : Nat.ble n.toNatClampNeg 60000000 with
        | false => rw [hb1] at h; cases h
        | true =>
          rw [hb1] at h
          cases h
          obtain ⟨h1, h2, h3, h4⟩ := hlk
          change newarray.typeOf t = j_ty l1 at h1
          change l1 < 4 at h2
          change val = defaultValue (j_ty l1) at h4
          have hbyt : componentBytes (newarray.typeOf t) ≤ 8 := by
            rw [h1]
            match l1, h2 with
            | 0, _ => decide
            | 1, _ => decide
            | 2, _ => decide
            | 3, _ => decide
          have hle := Nat.le_of_ble_eq_true hb1
          have hbytes : n.toNatClampNeg * componentBytes (newarray.typeOf t) ≤ 536870912 := by
            have := Nat.mul_le_mul hle hbyt
            omega
          refine va_newaK hx hb (by rw [h1]; exact hts _ h3) rfl hd rfl hn rfl hbytes hc hs rfl (fun H1 cA1 e1 e2 e3 e4 e5 => ?_)
          have hcA : cA1 = cA l1 := by
            have q1 := (hK.2 l1 _ (j_tys_at cA (by omega))).2
            rw [h1] at e5
            have q2 : s.vm.findClass ("[" ++ (j_ty l1).toString) = some (cA l1) := by
              match l1, h2, q1 with
              | 0, _, q1 => exact q1
              | 1, _, q1 => exact q1
              | 2, _, q1 => exact q1
              | 3, _, q1 => exact q1
            exact Option.some.inj (e5.symm.trans q2)
          subst hcA
          have had := j_H_ad hG hH
          have kk2 := kk H1 locs ls hl (hH.push hG e2 e3 ?_) ⟨by rw [e2]; exact Nat.le_succ_of_le hS.1, fun q q1 q2 => (e3 q (Nat.lt_of_lt_of_le q1 hS.1)).trans (hS.2.1 q q1 q2), hS.2.2⟩
          · change W p l e R s m args below meth c H1 locs _ _ Q (F0 m _ ls (g hp.length :: r.map (j_rv g))) at kk2
            rw [hG.ref hH.1, had] at kk2
            exact kk2
          · unfold j_in
            rw [if_neg (by have := hH.1; omega)]
            refine ⟨fun _ => ⟨by show l1 < 6; omega, ?_⟩, (fun z => by cases z)⟩
            rw [had, e1, h1]
            show some (arrV (cA l1) _ _) = some (arrV (cA l1) (List.replicate n.toNatClampNeg val).length _)
            rw [List.length_replicate]
            congr 1
            apply arrV_congr
            intro j hj
            simp only [List.getD_eq_getElem?_getD, List.getElem?_replicate, hj, if_true, Option.getD_some]
            rw [h4]
            match l1, h2 with
            | 0, _ => rfl
            | 1, _ => rfl
            | 2, _ => rfl
            | 3, _ => rfl
    | _ => cases h
theorem j_s_anewarray {i : Nat} (hC : j_Cx g ad B D cA cl TW zs ks own nm cc nL p s m args meth c) (hkd : j_kd cl TW df ∧ cl[99]? = none ∧ ∀ rr : vw_C, cl[4]? = some rr → rr.1 = "HundredWords$Row") (hd : decode cc pc = .ok (.anewarray i, len)) (hlen : len = j_len (.anewarray i)) (hlk : j_lk own nm cl TW zs ks pc (.anewarray i, len, l1, l2, val, ty)) (h : jstep df nL pc (.anewarray i, len, l1, l2, val, ty) lv st hp = some (pc', lv', st', hp', dc, ds)) (hl : lv_has ls nL (j_sl g lv)) (hH : j_H g ad B D cA cl s H hp) (hS : va_S (j_A B) s.heap H locs) (hc : cells + dc ≤ R.cells) (hs : slots + ds ≤ R.slots)
    (kk : ∀ (H' : Heap) (locs' : List Loc) (ls' : Array Slot), lv_has ls' nL (j_sl g lv') → j_H g ad B D cA cl s H' hp' → va_S (j_A B) s.heap H' locs' → W p l e R s m args below meth c H' locs' (cells + dc) (slots + ds) Q (F0 m pc' ls' (st'.map (j_rv g)))) : W p l e R s m args below meth c H locs cells slots Q (F0 m pc ls (st.map (j_rv g))) := by
  obtain ⟨hG, hx, hb, hml, hown, hts, hlocks, hname, hK, hSt, hKs, hBs⟩ := hC
  subst hlen
  cases st with
  | nil => cases h
  | cons v r =>
    cases v with
    | int n =>
      change (if n < 0 then none else cond (Nat.ble n.toNatClampNeg 60000000) (some (pc + 3, lv, .ref hp.length :: r, hp ++ [(true, 4, List.replicate n.toNatClampNeg .null)], 1, n.toNatClampNeg)) none) = some _ at h
      split at h
      · cases h
      · rename_i hn
        cases hb1 : Nat.ble n.toNatClampNeg 60000000 with
        | false => rw [hb1] at h; cases h
        | true =>
          rw [hb1] at h
          cases h
          have hle := Nat.le_of_ble_eq_true hb1
          refine W.anew hx hb hown (hts _ hlk.1) (va_AO.use (hKs.2 _ hlk.2).2) rfl hd rfl hn (by omega) hc hs (fun cA1 kA comp e1 e2 e3 e4 => ?_)
          have hcA : cA1 = cA 4 := by
            obtain ⟨kA', comp', q1, q2, q3, q4⟩ : va_RA s (cA 4) (.object "HundredWords$Row") := (hK.2 4 _ (j_tys_at cA (by omega))).2
            exact Option.some.inj (e1.symm.trans q4)
          subst hcA
          have had := j_H_ad hG hH
          have kk2 := kk (H.push { cls := cA 4, slots := Array.replicate n.toNatClampNeg .null, vm := .none }) locs ls hl (hH.push hG (by simp) (fun q hq => by rw [Array.getElem?_push, if_neg (Nat.ne_of_lt hq)]) ?_) ⟨by simp; exact Nat.le_succ_of_le hS.1, fun q q1 q2 => by rw [Array.getElem?_push, if_neg (Nat.ne_of_lt (Nat.lt_of_lt_of_le q1 hS.1))]; exact hS.2.1 q q1 q2, hS.2.2⟩
          · change W p l e R s m args below meth c _ locs _ _ Q (F0 m _ ls (g hp.length :: r.map (j_rv g))) at kk2
            rw [hG.ref hH.1, had] at kk2
            exact kk2
          · unfold j_in
            rw [if_neg (by have := hH.1; omega)]
            refine ⟨fun _ => ⟨by show 4 < 6; omega, ?_⟩, (fun z => by cases z)⟩
            rw [had, arrV_new]
            simp only [Array.getElem?_push_size]
            show some (arrV (cA 4) _ _) = some (arrV (cA 4) (List.replicate n.toNatClampNeg Value.null).length _)
            rw [List.length_replicate]
            congr 1
            apply arrV_congr
            intro j hj
            simp only [List.getD_eq_getElem?_getD, List.getElem?_replicate, hj, if_true, Option.getD_some]
            rfl
    | _ => cases h
end JS
