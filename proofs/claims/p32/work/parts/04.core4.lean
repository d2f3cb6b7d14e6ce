/-! THE SMALL MACHINE'S RUNS AGAINST THE LARGE ONE'S WALKS. -/
def j_cal (yn : Nat → MethodName) (bt : Nat → ByteArray) (rt : Nat → Option FieldType) (mx : Nat → Nat) (own : Nat → String) (TW : List Cond) (j : Nat) : Prop :=
  Cond.code (yn j) (bt j) (mx j) (rt j) ∈ TW ∧ Cond.initialized (yn j).cls ∈ TW ∧ plainFor (yn j) = true ∧ ((yn j).cls ≠ "java/lang/invoke/MethodHandle" ∧ (yn j).cls ≠ "java/lang/invoke/VarHandle") ∧ own j = (yn j).cls
/-- what an entry of method k's code needs -/
def j_ok (yn : Nat → MethodName) (bt : Nat → ByteArray) (rt : Nat → Option FieldType) (mx rc : Nat → Nat) (own : Nat → String) (cl : List vw_C) (TW : List Cond) (zs : List (String × String × String × Value)) (ks : jK) (k pc : Nat) (e : jE) : Prop :=
  decode (bt k) pc = .ok (e.1, e.2.1) ∧ j_lk (own k) (yn k).name cl TW zs ks pc e ∧
  match e.1 with
  | .tableswitch _ _ _ _ => True
  | .lookupswitch _ _ => True
  | .ireturn => e.2.1 = 1 ∧ rt k = some e.2.2.2.2.2
  | .lreturn => e.2.1 = 1 ∧ rt k = some .long
  | .areturn => e.2.1 = 1 ∧ ∃ t, rt k = some (.array t)
  | .return_ => e.2.1 = 1 ∧ rt k = none
  | .invokevirtual i => e.2.1 = 3 ∧ j_cal yn bt rt mx own TW e.2.2.1 ∧ Cond.methodLink (own k) i (yn e.2.2.1) ∈ TW ∧ Cond.instanceMethod (yn e.2.2.1) ∈ TW ∧ Cond.selects (yn e.2.2.1).cls (yn e.2.2.1) (yn e.2.2.1) ∈ TW ∧ (∃ n, e.2.2.2.1 = n + 1 ∧ (parseMethodDescriptor (yn e.2.2.1).desc).map (fun d => d.parameters.length) = some n) ∧ ((rc e.2.2.1 = 99 ∧ (yn e.2.2.1).cls = "java/lang/String") ∨ (¬ rc e.2.2.1 = 99 ∧ ∃ r : vw_C, cl[rc e.2.2.1]? = some r ∧ r.1 = (yn e.2.2.1).cls))
  | .invokestatic i => e.2.1 = 3 ∧ ((e.2.2.1 = 1001 ∧ Cond.methodLink (own k) i arraycopyName ∈ TW ∧ Cond.native arraycopyName ∈ TW ∧ Cond.static arraycopyName ∈ TW ∧ Cond.initialized "java/lang/System" ∈ TW) ∨
      (¬ 1001 ≤ e.2.2.1 ∧ j_cal yn bt rt mx own TW e.2.2.1 ∧ (Cond.methodLink (own k) i (yn e.2.2.1) ∈ TW ∨ ∃ host, Cond.methodLinkNest (own k) i (yn e.2.2.1) host ∈ ks.2) ∧ Cond.static (yn e.2.2.1) ∈ TW ∧ (parseMethodDescriptor (yn e.2.2.1).desc).map (fun d => d.parameters.length) = some e.2.2.2.1))
  | .invokespecial i => e.2.1 = 3 ∧ ((e.2.2.1 = 1000 ∧ Cond.methodLink (own k) i Lib.objectInit ∈ TW ∧ Cond.instanceMethod Lib.objectInit ∈ TW ∧ Cond.code Lib.objectInit ⟨#[0xb1]⟩ 1 none ∈ TW) ∨
      (¬ e.2.2.1 = 1000 ∧ j_cal yn bt rt mx own TW e.2.2.1 ∧ Cond.methodLink (own k) i (yn e.2.2.1) ∈ TW ∧ Cond.instanceMethod (yn e.2.2.1) ∈ TW ∧ (yn e.2.2.1).name = "<init>" ∧ rt e.2.2.1 = none ∧ ∃ n, e.2.2.2.1 = n + 1 ∧ (parseMethodDescriptor (yn e.2.2.1).desc).map (fun d => d.parameters.length) = some n))
  | _ => e.2.1 = j_len e.1
def j_Pre (g : Nat → Value) (ad : Nat → Nat) (B : Nat) (D : va_G) (cA : Nat → ClassId) (cl : List vw_C) (zs : List (String × String × String × Value)) (ks : jK) (hp : List jc) (U : State) : Prop :=
  va_K D cl (j_tys cA) U ∧ j_St g B zs U U.heap ∧ j_Ks g ks U ∧ B ≤ U.heap.size ∧ j_H g ad B D cA cl U U.heap hp
def j_Qc (g : Nat → Value) (ad : Nat → Nat) (B : Nat) (D : va_G) (cA : Nat → ClassId) (cl : List vw_C) (v : Option Value) (hp : List jc) : Array Value → State → Outcome → State → Prop := fun _ st oc t =>
  oc = .returned (v.map (j_rv g)) ∧ j_H g ad B D cA cl t t.heap hp ∧ va_F (j_A B) st t
section JR
variable {g : Nat → Value} {ad : Nat → Nat} {B : Nat} {D : va_G} {cA : Nat → ClassId} {cl : List vw_C} {TW : List Cond} {zs : List (String × String × String × Value)} {ks : jK} {df : Nat → List Value}
variable {yn : Nat → MethodName} {bt : Nat → ByteArray} {rt : Nat → Option FieldType} {mx rc : Nat → Nat} {own : Nat → String} {F : Nat → Nat → Option jE}
theorem j_Nw_warm {x : Cond} {s U : State} (hW : s.WarmedH U.vm) (hx : j_isN x = true) (h : va_Nw x s) : va_Nw x U := by
  cases x with
  | arrayOver t =>
    cases t with
    | object C => exact va_AO.moved hW.alike h
    | _ => cases hx
  | _ => first | exact va_Nw.warmF hW h | exact va_Nw.warmM hW h | cases hx
theorem j_Nw_same {x : Cond} {s U : State} (hv : s.vm = U.vm) (hx : j_isN x = true) (h : va_Nw x s) : va_Nw x U := by
  cases x with
  | arrayOver t =>
    cases t with
    | object C => exact va_AO.moved (u := s) (U := U) (by rw [hv]; exact Vm.Alike.refl U.vm) h
    | _ => cases hx
  | _ => first | exact va_Nw.same rfl hv h | cases hx
theorem j_Ks.warm {s U : State} (hW : s.WarmedH U.vm) (h : j_Ks g ks s) : j_Ks g ks U := ⟨fun q hq => by
  obtain ⟨a, h1, h2⟩ := h.1 q hq
  exact ⟨a, h1, h2.warm hW⟩, fun x hx => ⟨(h.2 x hx).1, j_Nw_warm hW (h.2 x hx).1 (h.2 x hx).2⟩⟩
theorem j_Pre.blind {hp : List jc} {av : List Value} : FrameBlind (va_Pc av (j_Pre g ad B D cA cl zs ks hp)) := by
  intro a U fr mk q
  obtain ⟨q0, qK, qS, qs, qB, qH⟩ := q
  refine ⟨q0, va_K.moved (u := U) (U := U.calling fr mk a) (Vm.Alike.refl U.vm) qK, fun z hz => va_Z.moved (u := U) (U := U.calling fr mk a) (Vm.Alike.refl U.vm) (qS z hz), ⟨fun z hz => ?_, fun x hx => ⟨(qs.2 x hx).1, j_Nw_same (s := U) (U := U.calling fr mk a) rfl (qs.2 x hx).1 (qs.2 x hx).2⟩⟩, qB, j_H.moved (U := U) (V := U.calling fr mk a) (Vm.Alike.refl U.vm) qH⟩
  obtain ⟨x, h1, h2⟩ := qs.1 z hz
  exact ⟨x, h1, vk_R.same (u := U) (U := U.calling fr mk a) rfl h2⟩
theorem j_Pre.at {s U : State} {H : Heap} {locs : List Loc} {hp : List jc} (hK : va_K D cl (j_tys cA) s) (hSt : j_St g B zs s s.heap) (hKs : j_Ks g ks s) (hBs : B ≤ s.heap.size) (hH : j_H g ad B D cA cl s H hp) (hS : va_S (j_A B) s.heap H locs) (hU : U.heap = H) (hW : s.WarmedH U.vm) : j_Pre g ad B D cA cl zs ks hp U := by
  subst hU
  exact ⟨va_K.moved hW.alike hK, fun z hz => va_Z.moved hW.alike ((hSt z hz).kept hS.2.1), hKs.warm hW, Nat.le_trans hBs hS.1, hH.moved hW.alike⟩
theorem j_sl_len (hG : j_G g ad B) (as : List Value) : (lg_sl (as.map (j_rv g))).length = (lg_sl as).length := by
  induction as with
  | nil => rfl
  | cons v r ih =>
    unfold lg_sl at ih ⊢
    simp only [List.map_cons, List.flatMap_cons, List.length_append, ih, j_rv_cat hG]
    by_cases hv : v.category = 2
    · simp [hv]
    · simp [hv]
theorem j_args (hG : j_G g ad B) (as : List Value) : ∀ i, lv_args i (as.map (j_rv g)) = j_sl g (lv_args i as) := by
  induction as with
  | nil => intro i; rfl
  | cons v r ih =>
    intro i
    show (i, j_rv g v) :: lv_args (if (j_rv g v).category = 2 then i + 2 else i + 1) (r.map (j_rv g)) = (i, j_rv g v) :: j_sl g (lv_args (if v.category = 2 then i + 2 else i + 1) r)
    rw [ih, j_rv_cat hG]
theorem j_entry (hG : j_G g ad B) {as : List Value} {n : Nat} (h : (lg_sl as).length ≤ n) : lv_has ((lg_sl (as.map (j_rv g)) ++ List.replicate (n - (lg_sl (as.map (j_rv g))).length) Slot.unset).toArray) n (j_sl g (lv_args 0 as)) := by
  have h1 := lv_entry (as.map (j_rv g)) (n := n) (by rw [j_sl_len hG]; exact h)
  rw [j_args hG] at h1
  exact h1
/-- a call that has come back -/
theorem j_call {p : Program} {l : Launch} {e : Env} {R : Room} {s : State} {m : MethodId} {args : Array Value} {below : List Frame} {meth : Method} {c : Code} {H : Heap} {locs : List Loc} {cells slots mc ms : Nat} {Q : State → Prop} {pc : Nat} {ls : Array Slot} {st0 rest : List Value} {a : Array Value} {v : Option Value} {hp : List jc}
    (hr : va_Run p l e R s m args below meth c H locs cells slots mc ms (F0 m pc ls st0) rest (j_Qc g ad B D cA cl v hp a) (j_A B)) (hS : va_S (j_A B) s.heap H locs)
    (kk : ∀ (H1 : Heap) (locs1 : List Loc), j_H g ad B D cA cl s H1 hp → va_S (j_A B) s.heap H1 locs1 → W p l e R s m args below meth c H1 locs1 (cells + mc) (slots + ms) Q (F0 m (pc + 3) ls ((v.map (j_rv g)).toList ++ rest))) : W p l e R s m args below meth c H locs cells slots Q (F0 m pc ls st0) := by
  intro T hT X
  obtain ⟨v', st₀, t, T', L, h0, X', hL, e1, e2, ⟨hv, hH, hz, hk⟩, st⟩ := hr T hT X
  have hv' : v' = v.map (j_rv g) := by injection hv
  subst hv'
  rw [h0] at hz hk
  have hal : s.vm.Alike t.vm := by rw [← e2]; exact X'.warmed.alike
  obtain ⟨t2, a1, b1⟩ := kk T'.heap (locs ++ L) (by rw [e1]; exact hH.moved hal.symm)
    ⟨Nat.le_trans hS.1 (by rw [e1]; exact hz), fun q h1 h2 => by rw [e1, hk q (Nat.lt_of_lt_of_le h1 hS.1) h2]; exact hS.2.1 q h1 h2, fun q hq => by
      rcases List.mem_append.mp hq with h | h
      · exact hS.2.2 q h
      · exact hL q h⟩ T' rfl X'
  exact ⟨t2, st t2 a1, b1⟩
theorem j_toList (v : Option Value) (r : List Value) : (v.toList ++ r).map (j_rv g) = (v.map (j_rv g)).toList ++ r.map (j_rv g) := by
  cases v <;> rfl
theorem jrun_mono : ∀ (n k pc : Nat) (lv : jL) (st : List Value) (hp : List jc) (c sl fr lo : Nat) (r : jR), jrun F mx rc df n k pc lv st hp c sl fr lo = some r → c ≤ r.2.2.1 ∧ sl ≤ r.2.2.2 := by
  intro n
  induction n with
  | zero => intro k pc lv st hp c sl fr lo r h; cases h
  | succ n ih =>
    intro k pc lv st hp c sl fr lo r h
    rw [jrun_succ] at h
    unfold jbody at h
    have hcall : ∀ (b : Bool) (e : jE), (cond b (match jrun F mx rc df n e.2.2.1 0 (lv_args 0 (st.take e.2.2.2.1).reverse) [] hp 0 0 (fr - 1) (lo - (mx e.2.2.1 + 19)) with
      | some (v, hp', c1, s1) => jrun F mx rc df n k (pc + 3) lv (v.toList ++ st.drop e.2.2.2.1) hp' (c + c1) (sl + s1) fr lo
      | none => none) none) = some r → c ≤ r.2.2.1 ∧ sl ≤ r.2.2.2 := by
      intro b e h
      cases b with
      | false => cases h
      | true =>
        simp only [cond_true] at h
        split at h
        · rename_i v hp' c1 s1 _
          have := ih _ _ _ _ _ _ _ _ _ _ h
          exact ⟨Nat.le_trans (Nat.le_add_right _ _) this.1, Nat.le_trans (Nat.le_add_right _ _) this.2⟩
        · cases h
    dsimp only at h
    split at h
    · cases h
    · rename_i e he
      split at h
      · split at h
        · cases hb : j_fit e.2.2.2.2.2 (.int _) with
          | false => rw [hb] at h; cases h
          | true => rw [hb] at h; cases h; exact ⟨Nat.le_refl _, Nat.le_refl _⟩
        · cases h
      · split at h
        · cases h; exact ⟨Nat.le_refl _, Nat.le_refl _⟩
        · cases h
      · split at h
        · rename_i x
          cases hb : Nat.ble 9 x with
          | false => rw [hb] at h; cases h
          | true => rw [hb] at h; cases h; exact ⟨Nat.le_refl _, Nat.le_refl _⟩
        · cases h
      · split at h
        · cases h; exact ⟨Nat.le_refl _, Nat.le_refl _⟩
        · cases h
      · exact hcall _ e h
      · cases hb : Nat.ble 1001 e.2.2.1 with
        | true =>
          rw [hb] at h
          simp only [cond_true] at h
          cases hb2 : Nat.ble 1 fr && Nat.ble ((st.map fun v => v.category).sum + 40) lo with
          | false => rw [hb2] at h; cases h
          | true =>
            rw [hb2] at h
            simp only [cond_true] at h
            split at h
            · exact ih _ _ _ _ _ _ _ _ _ _ h
            · cases h
        | false =>
          rw [hb] at h
          simp only [cond_false] at h
          exact hcall _ e h
      · cases hb : Nat.beq e.2.2.1 1000 with
        | true =>
          rw [hb] at h
          simp only [cond_true] at h
          split at h
          · rename_i a r1
            cases hb2 : Nat.ble 9 a && Nat.ble 1 fr && Nat.ble ((r1.map fun v => v.category).sum + 12) lo with
            | false => rw [hb2] at h; cases h
            | true =>
              rw [hb2] at h
              exact ih _ _ _ _ _ _ _ _ _ _ h
          · cases h
        | false =>
          rw [hb] at h
          simp only [cond_false] at h
          have h2 : ∀ (b : Bool) (x : Option jR), cond b x none = some r → x = some r := fun b x hx => by cases b <;> first | exact hx | cases hx
          exact hcall _ e (h2 _ _ h)
      · split at h
        · have := ih _ _ _ _ _ _ _ _ _ _ h
          exact ⟨Nat.le_trans (Nat.le_add_right _ _) this.1, Nat.le_trans (Nat.le_add_right _ _) this.2⟩
        · cases h
/-- more fuel, the same answer -/
theorem jbody_up {ih1 ih2 : Nat → Nat → jL → List Value → List jc → Nat → Nat → Nat → Nat → Option jR} (H : ∀ (k pc : Nat) (lv : jL) (st : List Value) (hp : List jc) (c sl fr lo : Nat) (r : jR), ih1 k pc lv st hp c sl fr lo = some r → ih2 k pc lv st hp c sl fr lo = some r)
    {k pc : Nat} {lv : jL} {st : List Value} {hp : List jc} {c sl fr lo : Nat} {r : jR} (h : jbody F mx rc df ih1 k pc lv st hp c sl fr lo = some r) : jbody F mx rc df ih2 k pc lv st hp c sl fr lo = some r := by
  unfold jbody at h ⊢
  have hcall : ∀ (b : Bool) (e : jE), (cond b (match ih1 e.2.2.1 0 (lv_args 0 (st.take e.2.2.2.1).reverse) [] hp 0 0 (fr - 1) (lo - (mx e.2.2.1 + 19)) with
      | some (v, hp', c1, s1) => ih1 k (pc + 3) lv (v.toList ++ st.drop e.2.2.2.1) hp' (c + c1) (sl + s1) fr lo
      | none => none) none) = some r → (cond b (match ih2 e.2.2.1 0 (lv_args 0 (st.take e.2.2.2.1).reverse) [] hp 0 0 (fr - 1) (lo - (mx e.2.2.1 + 19)) with
      | some (v, hp', c1, s1) => ih2 k (pc + 3) lv (v.toList ++ st.drop e.2.2.2.1) hp' (c + c1) (sl + s1) fr lo
      | none => none) none) = some r := by
    intro b e h
    cases b with
    | false => cases h
    | true =>
      simp only [cond_true] at h ⊢
      split at h
      · rename_i v hp' c1 s1 h1
        rw [H _ _ _ _ _ _ _ _ _ _ h1]
        exact H _ _ _ _ _ _ _ _ _ _ h
      · cases h
  cases hF : F k pc with
  | none => rw [hF] at h; cases h
  | some e =>
    rw [hF] at h
    obtain ⟨ins, len, l1, l2, val, ty⟩ := e
    cases ins with
    | ireturn => exact h
    | lreturn => exact h
    | areturn => exact h
    | return_ => exact h
    | invokevirtual i =>
      dsimp only at h ⊢
      exact hcall _ (.invokevirtual i, len, l1, l2, val, ty) h
    | invokestatic i =>
      dsimp only at h ⊢
      cases hb : Nat.ble 1001 l1 with
      | true =>
        rw [hb] at h
        simp only [cond_true] at h ⊢
        cases hb2 : Nat.ble 1 fr && Nat.ble ((st.map fun v => v.category).sum + 40) lo with
        | false => rw [hb2] at h; cases h
        | true =>
          rw [hb2] at h
          simp only [cond_true] at h ⊢
          split at h
          · exact H _ _ _ _ _ _ _ _ _ _ h
          · cases h
      | false =>
        rw [hb] at h
        simp only [cond_false] at h ⊢
        exact hcall _ (.invokestatic i, len, l1, l2, val, ty) h
    | invokespecial i =>
      dsimp only at h ⊢
      cases hb : Nat.beq l1 1000 with
      | true =>
        rw [hb] at h
        simp only [cond_true] at h ⊢
        split at h
        · rename_i a r1
          cases hb2 : Nat.ble 9 a && Nat.ble 1 fr && Nat.ble ((r1.map fun v => v.category).sum + 12) lo with
          | false => rw [hb2] at h; cases h
          | true =>
            rw [hb2] at h
            exact H _ _ _ _ _ _ _ _ _ _ h
        · cases h
      | false =>
        rw [hb] at h
        simp only [cond_false] at h ⊢
        cases hb2 : j_hd9 (st.drop (l2 - 1)) with
        | false => rw [hb2] at h; cases h
        | true =>
          rw [hb2] at h
          exact hcall _ (.invokespecial i, len, l1, l2, val, ty) h
    | _ =>
      dsimp only at h ⊢
      revert h
      generalize jstep df (mx k) pc _ lv st hp = X
      intro h
      cases X with
      | none => cases h
      | some x =>
        obtain ⟨a1, a2, a3, a4, a5, a6⟩ := x
        exact H _ _ _ _ _ _ _ _ _ _ h
theorem jrun_up : ∀ (n m k pc : Nat) (lv : jL) (st : List Value) (hp : List jc) (c sl fr lo : Nat) (r : jR), n ≤ m → jrun F mx rc df n k pc lv st hp c sl fr lo = some r → jrun F mx rc df m k pc lv st hp c sl fr lo = some r := by
  intro n
  induction n with
  | zero => intro m k pc lv st hp c sl fr lo r _ h; cases h
  | succ n ih =>
    intro m k pc lv st hp c sl fr lo r hm h
    cases m with
    | zero => exact absurd hm (Nat.not_succ_le_zero n)
    | succ m =>
      rw [jrun_succ] at h ⊢
      exact jbody_up (fun k pc lv st hp c sl fr lo r h => ih m k pc lv st hp c sl fr lo r (Nat.le_of_succ_le_succ hm) h) h
end JR
