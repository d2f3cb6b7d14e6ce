noncomputable def j_chk (k : Nat) (q : Nat × jE × Nat × Nat) : Bool :=
  decide (decode (j_bt k) q.1 = .ok (q.2.1.1, q.2.1.2.1)) && (match q.2.1.1 with
  | .ifCond _ off => Nat.beq q.2.1.2.1 3 && decide ((q.1 : Int) + off = (q.2.1.2.2.1 : Int))
  | .if_icmp _ off => Nat.beq q.2.1.2.1 3 && decide ((q.1 : Int) + off = (q.2.1.2.2.1 : Int))
  | .goto off => Nat.beq q.2.1.2.1 3 && decide ((q.1 : Int) + off = (q.2.1.2.2.1 : Int))
  | .tableswitch _ _ _ _ => true
  | .lookupswitch _ ps => (ps.toList.zip (ps.toList.drop 1)).all (fun (a, next) => a.1 < next.1)
  | .ireturn => Nat.beq q.2.1.2.1 1 && decide (j_rt k = some q.2.1.2.2.2.2.2)
  | .lreturn => Nat.beq q.2.1.2.1 1 && decide (j_rt k = some .long)
  | .areturn => Nat.beq q.2.1.2.1 1 && (match j_rt k with | some (.array _) => true | _ => false)
  | .return_ => Nat.beq q.2.1.2.1 1 && decide (j_rt k = none)
  | .getfield i => Nat.beq q.2.1.2.1 3 && (cond (Nat.beq q.2.1.2.2.1 99) (Nat.blt q.2.1.2.2.2.1 2 && j_has q.2.2.1 q.2.2.2 (.fieldLink (j_own k) i "java/lang/String" (j_sf q.2.1.2.2.2.1).1 (j_sf q.2.1.2.2.2.1).2))
      (match vwCl[q.2.1.2.2.1]? with
        | some r => Nat.blt q.2.1.2.2.2.1 r.2.2 && (cond (Nat.beq q.2.2.1 99) (decide (Cond.fieldLinkNest (j_own k) i (r.2.1 q.2.1.2.2.2.1).1 (r.2.1 q.2.1.2.2.2.1).2.1 (r.2.1 q.2.1.2.2.2.1).2.2.1 "HundredWords" ∈ j_ks.2)) (j_has q.2.2.1 q.2.2.2 (.fieldLink (j_own k) i (r.2.1 q.2.1.2.2.2.1).1 (r.2.1 q.2.1.2.2.2.1).2.1 (r.2.1 q.2.1.2.2.2.1).2.2.1)))
        | none => false))
  | .putfield i => Nat.beq q.2.1.2.1 3 && (match vwCl[q.2.1.2.2.1]? with
        | some r => Nat.blt q.2.1.2.2.2.1 r.2.2 && j_has q.2.2.1 q.2.2.2 (.fieldLink (j_own k) i (r.2.1 q.2.1.2.2.2.1).1 (r.2.1 q.2.1.2.2.2.1).2.1 (r.2.1 q.2.1.2.2.2.1).2.2.1) && decide (parseFieldDescriptor (r.2.1 q.2.1.2.2.2.1).2.2.1 = some q.2.1.2.2.2.2.2) && (cond (r.2.1 q.2.1.2.2.2.1).2.2.2 (decide ((j_yn k).name = "<init>") && decide ((r.2.1 q.2.1.2.2.2.1).1 = j_own k)) true)
        | none => false)
  | .getstatic i => Nat.beq q.2.1.2.1 3 && j_zs.any (fun z => decide (z.2.2.2 = q.2.1.2.2.2.2.1) && j_has q.2.2.1 q.2.2.2 (.fieldLink (j_own k) i z.1 z.2.1 z.2.2.1))
  | .ldc2_w i => Nat.beq q.2.1.2.1 3 && (match q.2.1.2.2.2.2.1 with | .long x => j_has q.2.2.1 q.2.2.2 (.constantLong (j_own k) i x) | _ => false)
  | .ldc i => Nat.beq q.2.1.2.1 2 && j_ks.1.any (fun z => decide (z.1 = j_own k) && decide (z.2.1 = i) && decide (z.2.2.2 = q.2.1.2.2.2.2.1))
  | .new i => Nat.beq q.2.1.2.1 3 && (match vwCl[q.2.1.2.2.1]? with | some r => j_has q.2.2.1 q.2.2.2 (.classLink (j_own k) i r.1) | none => false)
  | .newarray t => Nat.beq q.2.1.2.1 2 && decide (newarray.typeOf t = j_ty q.2.1.2.2.1) && Nat.blt q.2.1.2.2.1 4 && j_has q.2.2.1 q.2.2.2 (.arrayClass (j_ty q.2.1.2.2.1)) && decide (q.2.1.2.2.2.2.1 = defaultValue (j_ty q.2.1.2.2.1))
  | .anewarray i => Nat.beq q.2.1.2.1 3 && j_has q.2.2.1 q.2.2.2 (.classLink (j_own k) i "HundredWords$Row")
  | .invokevirtual i => Nat.beq q.2.1.2.1 3 && Nat.blt q.2.1.2.2.1 361 && Nat.beq (j_kn q.2.1.2.2.1) 0 && j_has q.2.2.1 q.2.2.2 (.methodLink (j_own k) i (j_yn q.2.1.2.2.1)) && Nat.beq q.2.1.2.2.2.1 (j_np q.2.1.2.2.1 + 1)
  | .invokestatic i => Nat.beq q.2.1.2.1 3 && (cond (Nat.beq q.2.1.2.2.1 1001) (j_has q.2.2.1 q.2.2.2 (.methodLink (j_own k) i arraycopyName)) (Nat.blt q.2.1.2.2.1 361 && Nat.beq (j_kn q.2.1.2.2.1) 1 && (cond (Nat.beq q.2.2.1 99) (decide (Cond.methodLinkNest (j_own k) i (j_yn q.2.1.2.2.1) "HundredWords" ∈ j_ks.2)) (j_has q.2.2.1 q.2.2.2 (.methodLink (j_own k) i (j_yn q.2.1.2.2.1)))) && Nat.beq q.2.1.2.2.2.1 (j_np q.2.1.2.2.1)))
  | .invokespecial i => Nat.beq q.2.1.2.1 3 && (cond (Nat.beq q.2.1.2.2.1 1000) (j_has q.2.2.1 q.2.2.2 (.methodLink (j_own k) i Lib.objectInit)) (Nat.blt q.2.1.2.2.1 361 && Nat.beq (j_kn q.2.1.2.2.1) 2 && j_has q.2.2.1 q.2.2.2 (.methodLink (j_own k) i (j_yn q.2.1.2.2.1)) && Nat.beq q.2.1.2.2.2.1 (j_np q.2.1.2.2.1 + 1)))
  | i => Nat.beq q.2.1.2.1 (j_len i))
noncomputable def j_tall (k : Nat) (l : List (List (Nat × jE × Nat × Nat))) : Bool := l.all (fun r => r.all (j_chk k))
abbrev j_okk (k pc : Nat) (e : jE) : Prop := j_ok j_yn j_bt j_rt j_mx j_rc j_own vwCl j_TW j_zs j_ks k pc e
set_option maxHeartbeats 4000000 in
theorem j_chk_ok {k pc c o : Nat} {e : jE} (h : j_chk k (pc, e, c, o) = true) : j_okk k pc e := by
  obtain ⟨ins, len, l1, l2, val, ty⟩ := e
  unfold j_chk at h
  rw [Bool.and_eq_true] at h
  obtain ⟨hd, h⟩ := h
  have hd : decode (j_bt k) pc = .ok (ins, len) := of_decide_eq_true hd
  have bq : ∀ {a b : Nat}, Nat.beq a b = true → a = b := fun h => Nat.eq_of_beq_eq_true h
  have bl : ∀ {a b : Nat}, Nat.blt a b = true → a < b := fun h => Nat.le_of_ble_eq_true h
  cases ins with
  | ifCond cd off =>
    simp only [Bool.and_eq_true, decide_eq_true_eq] at h
    exact ⟨hd, h.2, bq h.1⟩
  | if_icmp cd off =>
    simp only [Bool.and_eq_true, decide_eq_true_eq] at h
    exact ⟨hd, h.2, bq h.1⟩
  | goto off =>
    simp only [Bool.and_eq_true, decide_eq_true_eq] at h
    exact ⟨hd, h.2, bq h.1⟩
  | tableswitch _ _ _ _ => exact ⟨hd, trivial, trivial⟩
  | lookupswitch d ps => exact ⟨hd, h, trivial⟩
  | ireturn =>
    simp only [Bool.and_eq_true, decide_eq_true_eq] at h
    exact ⟨hd, trivial, bq h.1, h.2⟩
  | lreturn =>
    simp only [Bool.and_eq_true, decide_eq_true_eq] at h
    exact ⟨hd, trivial, bq h.1, h.2⟩
  | areturn =>
    simp only [Bool.and_eq_true] at h
    refine ⟨hd, trivial, bq h.1, ?_⟩
    have h2 := h.2
    split at h2
    · rename_i t ht
      exact ⟨t, ht⟩
    · cases h2
  | return_ =>
    simp only [Bool.and_eq_true, decide_eq_true_eq] at h
    exact ⟨hd, trivial, bq h.1, h.2⟩
  | getfield i =>
    simp only [Bool.and_eq_true] at h
    refine ⟨hd, ?_, bq h.1⟩
    have h2 := h.2
    cases hb : Nat.beq l1 99 with
    | true =>
      rw [hb] at h2
      simp only [cond_true, Bool.and_eq_true] at h2
      exact Or.inl ⟨bq hb, bl h2.1, j_has_in h2.2⟩
    | false =>
      rw [hb] at h2
      simp only [cond_false] at h2
      refine Or.inr ⟨(fun z => by rw [show l1 = 99 from z] at hb; cases hb), ?_⟩
      split at h2
      · rename_i r hr
        rw [Bool.and_eq_true] at h2
        refine ⟨r.1, r.2.1, r.2.2, hr, bl h2.1, ?_⟩
        have h3 := h2.2
        cases hb3 : Nat.beq c 99 with
        | true =>
          rw [hb3] at h3
          exact Or.inr ⟨_, of_decide_eq_true h3⟩
        | false =>
          rw [hb3] at h3
          exact Or.inl (j_has_in h3)
      · cases h2
  | putfield i =>
    simp only [Bool.and_eq_true] at h
    refine ⟨hd, ?_, bq h.1⟩
    have h2 := h.2
    split at h2
    · rename_i r hr
      simp only [Bool.and_eq_true, decide_eq_true_eq] at h2
      refine ⟨(fun z => by rw [show l1 = 99 from z] at hr; exact absurd hr (by rw [j_kd_ok.2.1]; exact fun y => (by cases y))), r.1, r.2.1, r.2.2, hr, bl h2.1.1.1, j_has_in h2.1.1.2, h2.1.2, fun hf => ?_⟩
      have h3 := h2.2
      rw [show (r.2.1 l2).2.2.2 = true from hf] at h3
      simp only [cond_true, Bool.and_eq_true, decide_eq_true_eq] at h3
      exact h3
    · cases h2
  | getstatic i =>
    simp only [Bool.and_eq_true] at h
    obtain ⟨z, hz, h2⟩ := List.any_eq_true.mp h.2
    simp only [Bool.and_eq_true, decide_eq_true_eq] at h2
    refine ⟨hd, ⟨z.1, z.2.1, z.2.2.1, ?_, j_has_in h2.2⟩, bq h.1⟩
    show (z.1, z.2.1, z.2.2.1, val) ∈ j_zs
    rw [← show z.2.2.2 = val from h2.1]
    exact hz
  | ldc2_w i =>
    simp only [Bool.and_eq_true] at h
    refine ⟨hd, ?_, bq h.1⟩
    have h2 := h.2
    cases val with
    | long x => exact ⟨x, rfl, j_has_in h2⟩
    | _ => cases h2
  | ldc i =>
    simp only [Bool.and_eq_true] at h
    obtain ⟨z, hz, h2⟩ := List.any_eq_true.mp h.2
    simp only [Bool.and_eq_true, decide_eq_true_eq] at h2
    refine ⟨hd, ⟨z.2.2.1, ?_⟩, bq h.1⟩
    show (j_own k, i, z.2.2.1, val) ∈ j_ks.1
    rw [← show z.2.2.2 = val from h2.2, ← h2.1.1, ← h2.1.2]
    exact hz
  | new i =>
    simp only [Bool.and_eq_true] at h
    refine ⟨hd, ?_, bq h.1⟩
    have h2 := h.2
    split at h2
    · rename_i r hr
      have := j_ki_ok _ _ _ _ (show vwCl[l1]? = some (r.1, r.2.1, r.2.2) from hr)
      exact ⟨r.1, r.2.1, r.2.2, hr, j_has_in h2, this.1, this.2⟩
    · cases h2
  | newarray t =>
    simp only [Bool.and_eq_true, decide_eq_true_eq] at h
    exact ⟨hd, ⟨h.1.1.1.2, bl h.1.1.2, j_has_in h.1.2, h.2⟩, bq h.1.1.1.1⟩
  | anewarray i =>
    simp only [Bool.and_eq_true] at h
    exact ⟨hd, ⟨j_has_in h.2, j_ao⟩, bq h.1⟩
  | invokevirtual i =>
    simp only [Bool.and_eq_true] at h
    obtain ⟨⟨⟨⟨h1, h2⟩, h3⟩, h4⟩, h5⟩ := h
    have hk : j_kn l1 = 0 := bq h3
    rcases jmf_all l1 (bl h2) with z | ⟨m1, m2, m3, -, -⟩
    · rw [hk] at z; cases z
    · obtain ⟨m5, m6, m7⟩ := m3 hk
      exact ⟨hd, trivial, bq h1, m1, j_has_in h4, m5, m6, ⟨_, bq h5, m2⟩, m7⟩
  | invokestatic i =>
    simp only [Bool.and_eq_true] at h
    refine ⟨hd, trivial, bq h.1, ?_⟩
    have h2 := h.2
    cases hb : Nat.beq l1 1001 with
    | true =>
      rw [hb] at h2
      exact Or.inl ⟨bq hb, j_has_in h2, j_cw⟩
    | false =>
      rw [hb] at h2
      simp only [cond_false, Bool.and_eq_true] at h2
      obtain ⟨⟨⟨h3, h4⟩, h5⟩, h6⟩ := h2
      have hk : j_kn l1 = 1 := bq h4
      have hn : l2 = j_np l1 := bq h6
      have hlt : l1 < 361 := bl h3
      rcases jmf_all l1 hlt with z | ⟨m1, m2, -, m3, -⟩
      · rw [hk] at z; cases z
      · refine Or.inr ⟨(by show ¬ 1001 ≤ l1; omega), m1, ?_, m3 hk, by show _ = some l2; rw [hn]; exact m2⟩
        cases hb3 : Nat.beq c 99 with
        | true =>
          rw [hb3] at h5
          exact Or.inr ⟨_, of_decide_eq_true h5⟩
        | false =>
          rw [hb3] at h5
          exact Or.inl (j_has_in h5)
  | invokespecial i =>
    simp only [Bool.and_eq_true] at h
    refine ⟨hd, trivial, bq h.1, ?_⟩
    have h2 := h.2
    cases hb : Nat.beq l1 1000 with
    | true =>
      rw [hb] at h2
      exact Or.inl ⟨bq hb, j_has_in h2, j_oi.1, j_oi.2⟩
    | false =>
      rw [hb] at h2
      simp only [cond_false, Bool.and_eq_true] at h2
      obtain ⟨⟨⟨h3, h4⟩, h5⟩, h6⟩ := h2
      have hk : j_kn l1 = 2 := bq h4
      rcases jmf_all l1 (bl h3) with z | ⟨m1, m2, -, -, m3⟩
      · rw [hk] at z; cases z
      · obtain ⟨m5, m6, m7⟩ := m3 hk
        exact Or.inr ⟨(fun z => by rw [show l1 = 1000 from z] at hb; cases hb), m1, j_has_in h5, m5, m6, m7, _, bq h6, m2⟩
  | _ => exact ⟨hd, trivial, bq h⟩
def j_tok (k : Nat) (l : List (List (Nat × jE × Nat × Nat))) : Prop := ∀ r ∈ l, ∀ q ∈ r, j_okk k q.1 q.2.1
theorem j_tall_ok {k : Nat} {l : List (List (Nat × jE × Nat × Nat))} (h : j_tall k l = true) : j_tok k l := fun r hr q hq => j_chk_ok (List.all_eq_true.mp (List.all_eq_true.mp h r hr) q hq)
theorem j_tok_app {k : Nat} {a b : List (List (Nat × jE × Nat × Nat))} (h1 : j_tok k a) (h2 : j_tok k b) : j_tok k (a ++ b) := fun r hr => (List.mem_append.mp hr).elim (h1 r) (h2 r)
