/-! FEWER LOCALS KNOWN, THE SAME RUN. -/
def j_fn (lv : jL) : Prop := ∀ k a b, (k, a) ∈ lv → (k, b) ∈ lv → a = b
theorem j_mem_get {lv : jL} {i : Nat} {v : Value} (hf : j_fn lv) (h : (i, v) ∈ lv) : j_get lv i = some v := by
  have key : ∀ (l : jL), (∀ q ∈ l, q ∈ lv) → (i, v) ∈ l → j_get l i = some v := by
    intro l
    induction l with
    | nil => intro _ h; exact absurd h List.not_mem_nil
    | cons q t ih =>
      intro hs hm
      show cond (Nat.beq q.1 i) (some q.2) (j_get t i) = some v
      cases hb : Nat.beq q.1 i with
      | true =>
        have e : q.1 = i := Nat.eq_of_beq_eq_true hb
        have hq : (i, q.2) ∈ lv := by rw [← e]; exact hs q List.mem_cons_self
        rw [hf i q.2 v hq h]
        rfl
      | false =>
        rcases List.mem_cons.mp hm with e | e
        · rw [← e] at hb
          rw [Nat.beq_refl] at hb
          cases hb
        · exact ih (fun z hz => hs z (List.mem_cons_of_mem _ hz)) e
  exact key lv (fun _ h => h) h
theorem j_ins_in {q x : Nat × Value} {l : jL} (h : x = q ∨ x ∈ l) : x ∈ j_ins q l := by
  induction l with
  | nil =>
    rcases h with e | e
    · exact List.mem_singleton.mpr e
    · exact absurd e List.not_mem_nil
  | cons a t ih =>
    show x ∈ cond (Nat.ble q.1 a.1) (q :: a :: t) (a :: j_ins q t)
    cases Nat.ble q.1 a.1 with
    | true => exact List.mem_cons.mpr h
    | false =>
      rcases h with e | e
      · exact List.mem_cons_of_mem _ (ih (Or.inl e))
      · rcases List.mem_cons.mp e with e2 | e2
        · exact List.mem_cons.mpr (Or.inl e2)
        · exact List.mem_cons_of_mem _ (ih (Or.inr e2))
def j_le (l2 l : jL) : Prop := j_fn l ∧ ∀ q ∈ l2, q ∈ l
theorem j_le.get {l2 l : jL} (h : j_le l2 l) {i : Nat} {v : Value} (hg : j_get l2 i = some v) : j_get l i = some v := j_mem_get h.1 (h.2 _ (j_get_mem hg))
theorem j_le.ins {l2 l : jL} (h : j_le l2 l) {p : Nat × Value → Bool} {i : Nat} {v : Value} (hp : ∀ q, p q = true → q.1 ≠ i) : j_le (j_ins (i, v) (l2.filter p)) (j_ins (i, v) (l.filter p)) := by
  refine ⟨fun k a b ha hb => ?_, fun q hq => ?_⟩
  · rcases j_ins_mem ha with e1 | e1 <;> rcases j_ins_mem hb with e2 | e2
    · rw [(Prod.mk.inj e1).2, (Prod.mk.inj e2).2]
    · exact absurd (Prod.mk.inj e1).1 (hp _ (List.mem_filter.mp e2).2)
    · exact absurd (Prod.mk.inj e2).1 (hp _ (List.mem_filter.mp e1).2)
    · exact h.1 k a b (List.mem_filter.mp e1).1 (List.mem_filter.mp e2).1
  · rcases j_ins_mem hq with e | e
    · exact j_ins_in (Or.inl e)
    · obtain ⟨m1, m2⟩ := List.mem_filter.mp e
      exact j_ins_in (Or.inr (List.mem_filter.mpr ⟨h.2 _ m1, m2⟩))
theorem j_le.put1 {l2 l : jL} (h : j_le l2 l) (i : Nat) (v : Value) : j_le (j_put1 l2 i v) (j_put1 l i v) := h.ins (fun q hq e => by simp [e] at hq)
theorem j_le.put2 {l2 l : jL} (h : j_le l2 l) (i : Nat) (v : Value) : j_le (j_put2 l2 i v) (j_put2 l i v) := h.ins (fun q hq e => by simp [e] at hq)
def j_loc : Instr → Bool
  | .iload_n _ | .iload _ | .lload_n _ | .lload _ | .aload_n _ | .aload _ | .istore_n _ | .istore _ | .astore_n _ | .astore _ | .lstore_n _ | .lstore _ | .iinc _ _ => true
  | _ => false
def j_sub (l : jL) (Y : jX) : jX := (Y.1, l, Y.2.2)
theorem j_go_nat {pc n : Nat} {l : jL} {hp : List jc} {X : Option (List Value)} : j_go pc n l hp X = (j_go pc n [] hp X).map (j_sub l) := by cases X <;> rfl
set_option maxHeartbeats 4000000 in
theorem jstep_nat {df : Nat → List Value} {nl pc : Nat} {e : jE} {l : jL} {st : List Value} {hp : List jc} (hloc : j_loc e.1 = false) : jstep df nl pc e l st hp = (jstep df nl pc e [] st hp).map (j_sub l) := by
  obtain ⟨ins, len, l1, l2, val, ty⟩ := e
  cases ins with
  | ifCond c o =>
    rcases st with _ | ⟨v, r⟩
    · rfl
    · cases v <;> rfl
  | if_icmp c o =>
    rcases st with _ | ⟨v, r⟩
    · rfl
    · cases v with
      | int y =>
        rcases r with _ | ⟨w, r⟩
        · rfl
        · cases w <;> rfl
      | _ => rfl
  | goto o => rfl
  | tableswitch d lo hi os =>
    rcases st with _ | ⟨v, r⟩
    · rfl
    · cases v with
      | int x =>
        show (match j_tsw pc d lo hi os x.toInt with | some t => some (t, l, r, hp, 0, 0) | none => none) = Option.map (j_sub l) (match j_tsw pc d lo hi os x.toInt with | some t => some (t, [], r, hp, 0, 0) | none => none)
        generalize j_tsw pc d lo hi os x.toInt = X
        cases X <;> rfl
      | _ => rfl
  | lookupswitch d ps =>
    rcases st with _ | ⟨v, r⟩
    · rfl
    · cases v with
      | int x =>
        show (match j_lsw pc d ps x.toInt with | some t => some (t, l, r, hp, 0, 0) | none => none) = Option.map (j_sub l) (match j_lsw pc d ps x.toInt with | some t => some (t, [], r, hp, 0, 0) | none => none)
        generalize j_lsw pc d ps x.toInt = X
        cases X <;> rfl
      | _ => rfl
  | putfield i =>
    rcases st with _ | ⟨v, r⟩
    · rfl
    · rcases r with _ | ⟨w, r⟩
      · cases v <;> rfl
      · cases w with
        | ref a =>
          have key : ∀ (l : jL) (v : Value), jstep df nl pc (.putfield i, len, l1, l2, val, ty) l (v :: .ref a :: r) hp = (match j_nth hp a with
            | some (false, ci, fs) => cond (Nat.beq ci l1 && Nat.ble 9 a && j_fit ty v) (some (pc + 3, l, r, j_set (false, ci, j_set v fs l2) hp a, 0, 0)) none
            | _ => none) := fun l v => by cases v <;> rfl
          rw [key, key]
          generalize j_nth hp a = X
          rcases X with _ | ⟨b, ci, fs⟩
          · rfl
          · cases b with
            | true => rfl
            | false =>
              dsimp only
              generalize (Nat.beq ci l1 && Nat.ble 9 a && j_fit ty v) = B
              cases B <;> rfl
        | _ => cases v <;> rfl
  | iastore =>
    rcases st with _ | ⟨v, r⟩
    · rfl
    · cases v with
      | int x =>
        rcases r with _ | ⟨w, r⟩
        · rfl
        · cases w with
          | int y =>
            rcases r with _ | ⟨u, r⟩
            · rfl
            · cases u with
              | ref a =>
                show (match j_ast hp a 0 y (.int x) with | some hp' => some (pc + 1, l, r, hp', 0, 0) | none => none) = Option.map (j_sub l) (match j_ast hp a 0 y (.int x) with | some hp' => some (pc + 1, [], r, hp', 0, 0) | none => none)
                generalize j_ast hp a 0 y (.int x) = X
                cases X <;> rfl
              | _ => rfl
          | _ => rfl
      | _ => rfl
  | lastore =>
    rcases st with _ | ⟨v, r⟩
    · rfl
    · cases v with
      | long x =>
        rcases r with _ | ⟨w, r⟩
        · rfl
        · cases w with
          | int y =>
            rcases r with _ | ⟨u, r⟩
            · rfl
            · cases u with
              | ref a =>
                show (match j_ast hp a 1 y (.long x) with | some hp' => some (pc + 1, l, r, hp', 0, 0) | none => none) = Option.map (j_sub l) (match j_ast hp a 1 y (.long x) with | some hp' => some (pc + 1, [], r, hp', 0, 0) | none => none)
                generalize j_ast hp a 1 y (.long x) = X
                cases X <;> rfl
              | _ => rfl
          | _ => rfl
      | _ => rfl
  | castore =>
    rcases st with _ | ⟨v, r⟩
    · rfl
    · cases v with
      | int x =>
        rcases r with _ | ⟨w, r⟩
        · rfl
        · cases w with
          | int y =>
            rcases r with _ | ⟨u, r⟩
            · rfl
            · cases u with
              | ref a =>
                show (match j_ast hp a 2 y (narrow .char (.int x)) with | some hp' => some (pc + 1, l, r, hp', 0, 0) | none => none) = Option.map (j_sub l) (match j_ast hp a 2 y (narrow .char (.int x)) with | some hp' => some (pc + 1, [], r, hp', 0, 0) | none => none)
                generalize j_ast hp a 2 y (narrow .char (.int x)) = X
                cases X <;> rfl
              | _ => rfl
          | _ => rfl
      | _ => rfl
  | bastore =>
    rcases st with _ | ⟨v, r⟩
    · rfl
    · cases v with
      | int x =>
        rcases r with _ | ⟨w, r⟩
        · rfl
        · cases w with
          | int y =>
            rcases r with _ | ⟨u, r⟩
            · rfl
            · cases u with
              | ref a =>
                show (match j_ast hp a 3 y (narrow .boolean (.int x)) with | some hp' => some (pc + 1, l, r, hp', 0, 0) | none => none) = Option.map (j_sub l) (match j_ast hp a 3 y (narrow .boolean (.int x)) with | some hp' => some (pc + 1, [], r, hp', 0, 0) | none => none)
                generalize j_ast hp a 3 y (narrow .boolean (.int x)) = X
                cases X <;> rfl
              | _ => rfl
          | _ => rfl
      | _ => rfl
  | aastore =>
    rcases st with _ | ⟨v, r⟩
    · rfl
    · cases v with
      | ref x =>
        rcases r with _ | ⟨w, r⟩
        · rfl
        · cases w with
          | int y =>
            rcases r with _ | ⟨u, r⟩
            · rfl
            · cases u with
              | ref a =>
                show (match j_nth hp x with
                  | some (false, ci, _) => cond (Nat.beq ci 4 && Nat.ble 9 x) (match j_ast hp a 4 y (.ref x) with | some hp' => some (pc + 1, l, r, hp', 0, 0) | none => none) none
                  | _ => none) = Option.map (j_sub l) (match j_nth hp x with
                  | some (false, ci, _) => cond (Nat.beq ci 4 && Nat.ble 9 x) (match j_ast hp a 4 y (.ref x) with | some hp' => some (pc + 1, [], r, hp', 0, 0) | none => none) none
                  | _ => none)
                generalize j_nth hp x = X
                generalize j_ast hp a 4 y (.ref x) = Z
                rcases X with _ | ⟨b, ci, fs⟩
                · rfl
                · cases b with
                  | true => rfl
                  | false =>
                    dsimp only
                    generalize (Nat.beq ci 4 && Nat.ble 9 x) = B
                    cases B <;> cases Z <;> rfl
              | _ => rfl
          | _ => rfl
      | _ => rfl
  | new i => rfl
  | newarray t =>
    rcases st with _ | ⟨v, r⟩
    · rfl
    · cases v with
      | int x =>
        by_cases hx : x < 0
        · simp only [jstep, hx, if_true]; rfl
        · simp only [jstep, hx, if_false]
          generalize Nat.ble x.toNatClampNeg 60000000 = B
          cases B <;> rfl
      | _ => rfl
  | anewarray t =>
    rcases st with _ | ⟨v, r⟩
    · rfl
    · cases v with
      | int x =>
        by_cases hx : x < 0
        · simp only [jstep, hx, if_true]; rfl
        · simp only [jstep, hx, if_false]
          generalize Nat.ble x.toNatClampNeg 60000000 = B
          cases B <;> rfl
      | _ => rfl
  | _ => first | (cases hloc; done) | exact j_go_nat | rfl
theorem jstep_le {df : Nat → List Value} {nl pc : Nat} {e : jE} {l2 l : jL} {st : List Value} {hp : List jc} {pc' dc ds : Nat} {l2' : jL} {st' : List Value} {hp' : List jc} (hl : j_le l2 l) (h : jstep df nl pc e l2 st hp = some (pc', l2', st', hp', dc, ds)) : ∃ l', jstep df nl pc e l st hp = some (pc', l', st', hp', dc, ds) ∧ j_le l2' l' := by
  cases hloc : j_loc e.1 with
  | false =>
    rw [jstep_nat hloc] at h ⊢
    cases hX : jstep df nl pc e [] st hp with
    | none => rw [hX] at h; cases h
    | some Y =>
      rw [hX] at h
      obtain ⟨a, b, c, d, f, g⟩ := Y
      cases h
      exact ⟨l, rfl, hl⟩
  | true =>
    obtain ⟨ins, len, l1, k2, val, ty⟩ := e
    cases ins with
    | iload_n i =>
      obtain ⟨q, hq, hX⟩ := j_go_some h
      cases hX
      refine ⟨l, ?_, hl⟩
      show j_go pc 1 l hp (match j_get l i with | some (.int x) => some (.int x :: st) | _ => none) = _
      split at hq
      · rename_i x hx; rw [hl.get hx]; cases hq; rfl
      · cases hq
    | iload i =>
      obtain ⟨q, hq, hX⟩ := j_go_some h
      cases hX
      refine ⟨l, ?_, hl⟩
      show j_go pc 2 l hp (match j_get l i with | some (.int x) => some (.int x :: st) | _ => none) = _
      split at hq
      · rename_i x hx; rw [hl.get hx]; cases hq; rfl
      · cases hq
    | lload_n i =>
      obtain ⟨q, hq, hX⟩ := j_go_some h
      cases hX
      refine ⟨l, ?_, hl⟩
      show j_go pc 1 l hp (match j_get l i with | some (.long x) => some (.long x :: st) | _ => none) = _
      split at hq
      · rename_i x hx; rw [hl.get hx]; cases hq; rfl
      · cases hq
    | lload i =>
      obtain ⟨q, hq, hX⟩ := j_go_some h
      cases hX
      refine ⟨l, ?_, hl⟩
      show j_go pc 2 l hp (match j_get l i with | some (.long x) => some (.long x :: st) | _ => none) = _
      split at hq
      · rename_i x hx; rw [hl.get hx]; cases hq; rfl
      · cases hq
    | aload_n i =>
      obtain ⟨q, hq, hX⟩ := j_go_some h
      cases hX
      refine ⟨l, ?_, hl⟩
      show j_go pc 1 l hp (match j_get l i with | some (.ref x) => some (.ref x :: st) | _ => none) = _
      split at hq
      · rename_i x hx; rw [hl.get hx]; cases hq; rfl
      · cases hq
    | aload i =>
      obtain ⟨q, hq, hX⟩ := j_go_some h
      cases hX
      refine ⟨l, ?_, hl⟩
      show j_go pc 2 l hp (match j_get l i with | some (.ref x) => some (.ref x :: st) | _ => none) = _
      split at hq
      · rename_i x hx; rw [hl.get hx]; cases hq; rfl
      · cases hq
    | istore_n i =>
      rcases st with _ | ⟨v, r⟩
      · cases h
      · cases v with
        | int x =>
          change cond (Nat.blt (i : Nat) nl) (some (pc + 1, j_put1 l2 i (.int x), r, hp, 0, 0)) none = _ at h
          show ∃ l', cond (Nat.blt (i : Nat) nl) (some (pc + 1, j_put1 l i (.int x), r, hp, 0, 0)) none = _ ∧ _
          cases hb : Nat.blt (i : Nat) nl with
          | false => rw [hb] at h; cases h
          | true => rw [hb] at h; cases h; exact ⟨_, rfl, hl.put1 _ _⟩
        | _ => cases h
    | istore i =>
      rcases st with _ | ⟨v, r⟩
      · cases h
      · cases v with
        | int x =>
          change cond (Nat.blt i nl) (some (pc + 2, j_put1 l2 i (.int x), r, hp, 0, 0)) none = _ at h
          show ∃ l', cond (Nat.blt i nl) (some (pc + 2, j_put1 l i (.int x), r, hp, 0, 0)) none = _ ∧ _
          cases hb : Nat.blt i nl with
          | false => rw [hb] at h; cases h
          | true => rw [hb] at h; cases h; exact ⟨_, rfl, hl.put1 _ _⟩
        | _ => cases h
    | astore_n i =>
      rcases st with _ | ⟨v, r⟩
      · cases h
      · cases v with
        | ref x =>
          change cond (Nat.blt (i : Nat) nl && Nat.ble 9 x) (some (pc + 1, j_put1 l2 i (.ref x), r, hp, 0, 0)) none = _ at h
          show ∃ l', cond (Nat.blt (i : Nat) nl && Nat.ble 9 x) (some (pc + 1, j_put1 l i (.ref x), r, hp, 0, 0)) none = _ ∧ _
          cases hb : (Nat.blt (i : Nat) nl && Nat.ble 9 x) with
          | false => rw [hb] at h; cases h
          | true => rw [hb] at h; cases h; exact ⟨_, rfl, hl.put1 _ _⟩
        | _ => cases h
    | astore i =>
      rcases st with _ | ⟨v, r⟩
      · cases h
      · cases v with
        | ref x =>
          change cond (Nat.blt i nl && Nat.ble 9 x) (some (pc + 2, j_put1 l2 i (.ref x), r, hp, 0, 0)) none = _ at h
          show ∃ l', cond (Nat.blt i nl && Nat.ble 9 x) (some (pc + 2, j_put1 l i (.ref x), r, hp, 0, 0)) none = _ ∧ _
          cases hb : (Nat.blt i nl && Nat.ble 9 x) with
          | false => rw [hb] at h; cases h
          | true => rw [hb] at h; cases h; exact ⟨_, rfl, hl.put1 _ _⟩
        | _ => cases h
    | lstore_n i =>
      rcases st with _ | ⟨v, r⟩
      · cases h
      · cases v with
        | long x =>
          change cond (Nat.blt ((i : Nat) + 1) nl) (some (pc + 1, j_put2 l2 i (.long x), r, hp, 0, 0)) none = _ at h
          show ∃ l', cond (Nat.blt ((i : Nat) + 1) nl) (some (pc + 1, j_put2 l i (.long x), r, hp, 0, 0)) none = _ ∧ _
          cases hb : Nat.blt ((i : Nat) + 1) nl with
          | false => rw [hb] at h; cases h
          | true => rw [hb] at h; cases h; exact ⟨_, rfl, hl.put2 _ _⟩
        | _ => cases h
    | lstore i =>
      rcases st with _ | ⟨v, r⟩
      · cases h
      · cases v with
        | long x =>
          change cond (Nat.blt (i + 1) nl) (some (pc + 2, j_put2 l2 i (.long x), r, hp, 0, 0)) none = _ at h
          show ∃ l', cond (Nat.blt (i + 1) nl) (some (pc + 2, j_put2 l i (.long x), r, hp, 0, 0)) none = _ ∧ _
          cases hb : Nat.blt (i + 1) nl with
          | false => rw [hb] at h; cases h
          | true => rw [hb] at h; cases h; exact ⟨_, rfl, hl.put2 _ _⟩
        | _ => cases h
    | iinc i n =>
      change (match j_get l2 i with | some (.int x) => cond (Nat.blt i nl && Nat.beq len 3) (some (pc + 3, j_put1 l2 i (.int (x + Int32.ofInt n)), st, hp, 0, 0)) none | _ => none) = _ at h
      show ∃ l', (match j_get l i with | some (.int x) => cond (Nat.blt i nl && Nat.beq len 3) (some (pc + 3, j_put1 l i (.int (x + Int32.ofInt n)), st, hp, 0, 0)) none | _ => none) = _ ∧ _
      split at h
      · rename_i x hx
        rw [hl.get hx]
        cases hb : (Nat.blt i nl && Nat.beq len 3) with
        | false => rw [hb] at h; cases h
        | true => rw [hb] at h; cases h; exact ⟨_, rfl, hl.put1 _ _⟩
      · cases h
    | _ => cases hloc
section JLS
variable {F : Nat → Nat → Option jE} {mx rc : Nat → Nat} {df : Nat → List Value}
theorem jrun_less : ∀ (n k pc : Nat) (l2 l : jL) (st : List Value) (hp : List jc) (c sl fr lo : Nat) (r : jR), j_le l2 l → jrun F mx rc df n k pc l2 st hp c sl fr lo = some r → jrun F mx rc df n k pc l st hp c sl fr lo = some r := by
  intro n
  induction n with
  | zero => intro k pc l2 l st hp c sl fr lo r _ h; cases h
  | succ n ih =>
    intro k pc l2 l st hp c sl fr lo r hl h
    rw [jrun_succ] at h ⊢
    unfold jbody at h ⊢
    have hcall : ∀ (b : Bool) (e : jE), (cond b (match jrun F mx rc df n e.2.2.1 0 (lv_args 0 (st.take e.2.2.2.1).reverse) [] hp 0 0 (fr - 1) (lo - (mx e.2.2.1 + 19)) with
        | some (v, hp', c1, s1) => jrun F mx rc df n k (pc + 3) l2 (v.toList ++ st.drop e.2.2.2.1) hp' (c + c1) (sl + s1) fr lo
        | none => none) none) = some r → (cond b (match jrun F mx rc df n e.2.2.1 0 (lv_args 0 (st.take e.2.2.2.1).reverse) [] hp 0 0 (fr - 1) (lo - (mx e.2.2.1 + 19)) with
        | some (v, hp', c1, s1) => jrun F mx rc df n k (pc + 3) l (v.toList ++ st.drop e.2.2.2.1) hp' (c + c1) (sl + s1) fr lo
        | none => none) none) = some r := by
      intro b e h
      cases b with
      | false => cases h
      | true =>
        simp only [cond_true] at h ⊢
        split at h
        · rename_i v hp' c1 s1 h1
          try rw [h1]
          exact ih _ _ _ _ _ _ _ _ _ _ _ hl h
        · cases h
    cases hF : F k pc with
    | none => rw [hF] at h; cases h
    | some e =>
      rw [hF] at h
      obtain ⟨ins, len, k1, k2, val, ty⟩ := e
      cases ins with
      | ireturn => exact h
      | lreturn => exact h
      | areturn => exact h
      | return_ => exact h
      | invokevirtual i =>
        dsimp only at h ⊢
        exact hcall _ (.invokevirtual i, len, k1, k2, val, ty) h
      | invokestatic i =>
        dsimp only at h ⊢
        cases hb : Nat.ble 1001 k1 with
        | true =>
          rw [hb] at h
          simp only [cond_true] at h ⊢
          cases hb2 : Nat.ble 1 fr && Nat.ble ((st.map fun v => v.category).sum + 40) lo with
          | false => rw [hb2] at h; cases h
          | true =>
            rw [hb2] at h
            simp only [cond_true] at h ⊢
            split at h
            · exact ih _ _ _ _ _ _ _ _ _ _ _ hl h
            · cases h
        | false =>
          rw [hb] at h
          simp only [cond_false] at h ⊢
          exact hcall _ (.invokestatic i, len, k1, k2, val, ty) h
      | invokespecial i =>
        dsimp only at h ⊢
        cases hb : Nat.beq k1 1000 with
        | true =>
          rw [hb] at h
          simp only [cond_true] at h ⊢
          split at h
          · rename_i a r1
            cases hb2 : Nat.ble 9 a && Nat.ble 1 fr && Nat.ble ((r1.map fun v => v.category).sum + 12) lo with
            | false => rw [hb2] at h; cases h
            | true =>
              rw [hb2] at h
              exact ih _ _ _ _ _ _ _ _ _ _ _ hl h
          · cases h
        | false =>
          rw [hb] at h
          simp only [cond_false] at h ⊢
          cases hb2 : j_hd9 (st.drop (k2 - 1)) with
          | false => rw [hb2] at h; cases h
          | true =>
            rw [hb2] at h
            exact hcall _ (.invokespecial i, len, k1, k2, val, ty) h
      | _ =>
        dsimp only at h ⊢
        cases hX : jstep df (mx k) pc _ l2 st hp with
        | none => rw [hX] at h; cases h
        | some Y =>
          rw [hX] at h
          obtain ⟨a1, a2, a3, a4, a5, a6⟩ := Y
          obtain ⟨l', e1, e2⟩ := jstep_le hl hX
          rw [e1]
          exact ih _ _ _ _ _ _ _ _ _ _ _ e2 h
end JLS
def j_srt (l : jL) : Bool := match l with | [] => true | [_] => true | a :: b :: t => Nat.blt a.1 b.1 && j_srt (b :: t)
theorem j_srt_lt {a : Nat × Value} {t : jL} (h : j_srt (a :: t) = true) : ∀ q ∈ t, a.1 < q.1 := by
  induction t generalizing a with
  | nil => intro q hq; exact absurd hq List.not_mem_nil
  | cons b t ih =>
    have h' : (Nat.blt a.1 b.1 && j_srt (b :: t)) = true := h
    rw [Bool.and_eq_true] at h'
    have hab : a.1 < b.1 := Nat.le_of_ble_eq_true h'.1
    intro q hq
    rcases List.mem_cons.mp hq with e | e
    · rw [e]; exact hab
    · exact Nat.lt_trans hab (ih h'.2 q e)
theorem j_srt_fn {l : jL} (h : j_srt l = true) : j_fn l := by
  induction l with
  | nil => intro k a b ha; exact absurd ha List.not_mem_nil
  | cons q t ih =>
    have ht : j_srt t = true := by
      cases t with
      | nil => rfl
      | cons b t =>
        have h' : (Nat.blt q.1 b.1 && j_srt (b :: t)) = true := h
        rw [Bool.and_eq_true] at h'
        exact h'.2
    intro k a b ha hb
    rcases List.mem_cons.mp ha with e1 | e1 <;> rcases List.mem_cons.mp hb with e2 | e2
    · have := e1.trans e2.symm
      exact (Prod.mk.inj this).2
    · have := j_srt_lt h _ e2
      rw [← e1] at this
      exact absurd this (Nat.lt_irrefl _)
    · have := j_srt_lt h _ e1
      rw [← e2] at this
      exact absurd this (Nat.lt_irrefl _)
    · exact ih ht k a b e1 e2
