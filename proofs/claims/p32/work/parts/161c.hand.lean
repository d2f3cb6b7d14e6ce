/-! ROWS COPIED BY THE LIBRARY; ROWS OF OBJECTS; THE TABLE'S LENGTH. -/
theorem m_cpl {f0 f1 : Nat → Value} {n0 n1 sp dp n : Nat} (h0 : sp + n ≤ n0) (h1 : dp + n ≤ n1) : j_cpl ((List.range n0).map f0) ((List.range n1).map f1) sp dp n = (List.range n1).map (fun j => cond (Nat.ble dp j && Nat.blt j (dp + n)) (f0 (sp + (j - dp))) (f1 j)) := by
  unfold j_cpl
  apply List.ext_getElem
  · simp only [List.length_append, List.length_take, List.length_drop, List.length_map, List.length_range]
    omega
  · intro i hi hi2
    have hi3 : i < n1 := by simpa using hi2
    rw [List.getElem_map, List.getElem_range]
    by_cases c1 : i < dp
    · rw [List.getElem_append_left (by simp only [List.length_take, List.length_map, List.length_range]; omega), List.getElem_take, List.getElem_map, List.getElem_range, show Nat.ble dp i = false by
        cases e : Nat.ble dp i with
        | false => rfl
        | true => have := Nat.le_of_ble_eq_true e; omega, Bool.false_and, cond_false]
    · rw [List.getElem_append_right (by simp only [List.length_take, List.length_map, List.length_range]; omega), show Nat.ble dp i = true from Nat.ble_eq_true_of_le (by omega), Bool.true_and]
      by_cases c2 : i < dp + n
      · rw [List.getElem_append_left (by simp only [List.length_take, List.length_drop, List.length_map, List.length_range]; omega), List.getElem_take, List.getElem_drop, List.getElem_map, List.getElem_range, show Nat.blt i (dp + n) = true from Nat.ble_eq_true_of_le (by omega), cond_true]
        congr 1
        simp only [List.length_take, List.length_map, List.length_range]
        omega
      · rw [List.getElem_append_right (by simp only [List.length_take, List.length_drop, List.length_map, List.length_range]; omega), List.getElem_drop, List.getElem_map, List.getElem_range, show Nat.blt i (dp + n) = false by
          cases e : Nat.blt i (dp + n) with
          | false => rfl
          | true => have := Nat.le_of_ble_eq_true e; omega, cond_false]
        congr 1
        simp only [List.length_take, List.length_drop, List.length_map, List.length_range]
        omega
def m_cp (σ : jM) (a a0 sp dp n : Nat) : jM := (fun b k => cond (Nat.beq b a && (Nat.ble dp k && Nat.blt k (dp + n))) (σ.1 a0 (sp + (k - dp))) (σ.1 b k), σ.2.1, σ.2.2)
theorem m_atl {σ : jM} {a K n : Nat} (hk : KD a = K) (h0 : K ≠ 0) (hq : m_qa (jSK K) 0 n = true) : j_at (HP σ) a [0] = some ((List.range n).map fun j => Value.int (Int32.ofInt (σ.1 a j))) := by
  unfold j_at
  rw [show j_nth (HP σ) a = _ from m_at rfl hk h0, m_qa_cell hq]
  rfl
theorem m_n0 {z : Int} (h0 : 0 ≤ z) (h1 : z ≤ 2147483647) : ¬ Int32.ofInt z < 0 := fun h => by
  have := (m_lt (b := 0) (a := z) ⟨by omega, h1⟩ ⟨by decide, by decide⟩).mp h
  omega
theorem m_cpw {σ : jM} {a a0 K K0 n0 n1 : Nat} {sp dp n : Int} {st : List Value} (hk0 : KD a0 = K0) (h00 : K0 ≠ 0) (hq0 : m_qa (jSK K0) 0 n0 = true) (hk : KD a = K) (h01 : K ≠ 0) (hq : m_qa (jSK K) 0 n1 = true) (hn0 : n0 ≤ 2147483647) (hn1 : n1 ≤ 2147483647) (hs : 0 ≤ sp) (hd : 0 ≤ dp) (hn : 0 ≤ n) (h1 : sp + n ≤ (n0 : Int)) (h2 : dp + n ≤ (n1 : Int)) : j_cpy (iV n :: iV dp :: .ref a :: iV sp :: .ref a0 :: st) (HP σ) = some (st, HP (m_cp σ a a0 sp.toNat dp.toNat n.toNat)) := by
  unfold j_cpy
  dsimp only
  rw [m_atl hk0 h00 hq0, m_atl hk h01 hq]
  dsimp only
  rw [if_neg (m_n0 hs (by omega)), if_neg (m_n0 hd (by omega)), if_neg (m_n0 hn (by omega)), m_nat (z := sp) ⟨by omega, by omega⟩, m_nat (z := dp) ⟨by omega, by omega⟩, m_nat (z := n) ⟨by omega, by omega⟩]
  have hall : (((((List.range n0).map fun j => Value.int (Int32.ofInt (σ.1 a0 j))).drop sp.toNat).take n.toNat).all j_isi) = true := by
    rw [List.all_eq_true]
    intro x hx
    obtain ⟨j, -, e⟩ := List.mem_map.mp (List.mem_of_mem_drop (List.mem_of_mem_take hx))
    rw [← e]
    rfl
  rw [hall, Bool.and_true, Nat.ble_eq_true_of_le (m_kd_some hk0 h00).1, Nat.ble_eq_true_of_le (m_kd_some hk h01).1, Bool.true_and, Bool.true_and, List.length_map, List.length_map, List.length_range, List.length_range, Nat.ble_eq_true_of_le (show sp.toNat + n.toNat ≤ n0 by omega), Nat.ble_eq_true_of_le (show dp.toNat + n.toNat ≤ n1 by omega), Bool.true_and, cond_true]
  rw [m_cpl (by omega) (by omega)]
  refine congrArg (fun h => some (st, h)) (m_hp_set (SK := jSK) (KD := jKD) (old := jOld) (σ := σ) (τ := m_cp σ a a0 sp.toNat dp.toNat n.toNat) jOld_len hk h01 (fun b j hb => ⟨?_, rfl, rfl⟩) ?_)
  · show _ = cond (Nat.beq b a && _) _ (σ.1 b j)
    rw [show Nat.beq b a = false by
      cases e : Nat.beq b a with
      | false => rfl
      | true => exact absurd (Nat.eq_of_beq_eq_true e) hb, Bool.false_and, cond_false]
  · rw [m_qa_cell hq]
    show (true, 0, _) = (true, 0, (List.range n1).map fun j => Value.int (Int32.ofInt ((m_cp σ a a0 sp.toNat dp.toNat n.toNat).1 a j)))
    congr 2
    apply List.map_congr_left
    intro j _
    show _ = Value.int (Int32.ofInt (cond (Nat.beq a a && _) _ _))
    rw [Nat.beq_refl, Bool.true_and]
    cases Nat.ble dp.toNat j && Nat.blt j (dp.toNat + n.toNat) <;> rfl
section
variable {k pc pc2 fr lo len l1 l2 tgt : Nat} {lv : jL} {st : List Value} {σ : jM} {Q : Option Value → jM → Prop} {val : Value} {ty : FieldType}
theorem wp_acopy {W : Nat → Nat → Bool} {a a0 K K0 n0 n1 i : Nat} {sp dp n lo0 hi0 lo1 hi1 : Int} (hF : j_F k pc = some (.invokestatic i, len, 1001, l2, val, ty)) (hk0 : KD a0 = K0) (h00 : K0 ≠ 0) (hq0 : m_qa (jSK K0) 0 n0 = true) (hk : KD a = K) (h01 : K ≠ 0) (hq : m_qa (jSK K) 0 n1 = true) (hnn : (Nat.ble n0 2147483647 && Nat.ble n1 2147483647) = true) (er0 : ∀ f, jRG K0 f = (lo0, hi0)) (er1 : ∀ f, jRG K f = (lo1, hi1)) (hl : lo1 ≤ lo0) (hh : hi0 ≤ hi1) (hW : ∀ j, W a j = true) (hs : 0 ≤ sp) (hd : 0 ≤ dp) (hn : 0 ≤ n) (h1 : sp + n ≤ (n0 : Int)) (h2 : dp + n ≤ (n1 : Int)) (hfr : 1 ≤ fr) (hlo : ((iV n :: iV dp :: Value.ref a :: iV sp :: Value.ref a0 :: st).map fun v => v.category).sum + 40 ≤ lo) (hp : pc + 3 = pc2) (hg : GI σ)
    (h : ∀ τ, GI τ → FR W σ τ → WP k pc2 lv st fr lo τ Q) : WP k pc lv (iV n :: iV dp :: .ref a :: iV sp :: .ref a0 :: st) fr lo σ Q := by
  subst hp
  rw [Bool.and_eq_true] at hnn
  have hc := m_cpw (σ := σ) (st := st) hk0 h00 hq0 hk h01 hq (Nat.le_of_ble_eq_true hnn.1) (Nat.le_of_ble_eq_true hnn.2) hs hd hn h1 h2
  refine wp_eq (fun m => ?_) (h (m_cp σ a a0 sp.toNat dp.toNat n.toNat) ?_ ?_)
  · unfold JR
    rw [jrun_succ]
    unfold jbody
    rw [hF]
    dsimp only
    rw [show Nat.ble 1001 1001 = true from rfl, cond_true, Nat.ble_eq_true_of_le hfr, Nat.ble_eq_true_of_le hlo, Bool.true_and, cond_true, show j_nat 1001 (iV n :: iV dp :: Value.ref a :: iV sp :: Value.ref a0 :: st) (HP σ) = some (st, HP (m_cp σ a a0 sp.toNat dp.toNat n.toNat)) from hc]
  · intro b j
    by_cases hb : b = a
    · subst hb
      rw [show m_kd jKD b = K from hk, er1]
      have g0 := hg b j
      rw [show m_kd jKD b = K from hk, er1] at g0
      have g1 := hg a0 (sp.toNat + (j - dp.toNat))
      rw [show m_kd jKD a0 = K0 from hk0, er0] at g1
      show lo1 ≤ cond (Nat.beq b b && _) _ (σ.1 b j) ∧ cond (Nat.beq b b && _) _ (σ.1 b j) ≤ hi1
      rw [Nat.beq_refl, Bool.true_and]
      cases Nat.ble dp.toNat j && Nat.blt j (dp.toNat + n.toNat) with
      | false => exact g0
      | true => exact ⟨Int.le_trans hl g1.1, Int.le_trans g1.2 hh⟩
    · have e : (m_cp σ a a0 sp.toNat dp.toNat n.toNat).1 b j = σ.1 b j := by
        show cond (Nat.beq b a && _) _ (σ.1 b j) = _
        rw [show Nat.beq b a = false by
          cases e : Nat.beq b a with
          | false => rfl
          | true => exact absurd (Nat.eq_of_beq_eq_true e) hb, Bool.false_and, cond_false]
      rw [e]
      exact hg b j
  · intro b j hn
    refine ⟨?_, rfl, rfl⟩
    have hb : b ≠ a := fun z => by
      rw [z, hW j] at hn
      cases hn
    show cond (Nat.beq b a && _) _ (σ.1 b j) = _
    rw [show Nat.beq b a = false by
      cases e : Nat.beq b a with
      | false => rfl
      | true => exact absurd (Nat.eq_of_beq_eq_true e) hb, Bool.false_and, cond_false]
theorem wp_aald {a K b : Nat} {z : Int} {cs : List Nat} (hF : j_F k pc = some (.aaload, len, l1, l2, val, ty)) (hk : KD a = K) (h0 : K ≠ 0) (hs : jSK K = (true, 4, cs, 0)) (hz : j_nth cs z.toNat = some (b + 100)) (hr : (decide (0 ≤ z) && decide (z ≤ 2147483647)) = true) (hp : pc + 1 = pc2) (h : WP k pc2 lv (.ref b :: st) fr lo σ Q) : WP k pc lv (iV z :: .ref a :: st) fr lo σ Q := by
  subst hp
  rw [Bool.and_eq_true, decide_eq_true_eq, decide_eq_true_eq] at hr
  have e : j_el (HP σ) a [4] (Int32.ofInt z) = some (.ref b) := by
    unfold j_el j_at
    rw [show j_nth (HP σ) a = _ from m_at rfl hk h0, hs]
    show (if Int32.ofInt z < 0 then none else j_nth (m_fs σ a cs 0) (Int32.ofInt z).toNatClampNeg) = _
    rw [if_neg (m_n0 hr.1 hr.2), m_nat (z := z) ⟨by omega, hr.2⟩, j_nth_eq, m_fs_at, ← j_nth_eq, hz, Option.map_some]
    show some (cond (Nat.beq (b + 100) 0) _ (cond (Nat.beq (b + 100) 1) _ (cond (Nat.beq (b + 100) 2) _ (cond (Nat.ble 100 (b + 100)) (Value.ref (b + 100 - 100)) _)))) = _
    rw [show Nat.beq (b + 100) 0 = false from rfl, show Nat.beq (b + 100) 1 = false from rfl, show Nat.beq (b + 100) 2 = false from rfl, Nat.ble_eq_true_of_le (show 100 ≤ b + 100 by omega), cond_false, cond_false, cond_false, cond_true, Nat.add_sub_cancel]
  exact wp_s hF rfl (by show j_go pc 1 lv (HP σ) (j_ald (HP σ) [4] _) = _; rw [j_ald_el e]; rfl) h
theorem wp_nlen (hF : j_F k pc = some (.arraylength, len, l1, l2, val, ty)) (hp : pc + 1 = pc2) (h : WP k pc2 lv (iV 25 :: st) fr lo σ Q) : WP k pc lv (.ref 1 :: st) fr lo σ Q := by
  subst hp
  exact wp_eq (fun _ => jr_al hF (by
    unfold j_al
    rw [show j_nth (HP σ) 1 = some (true, 0, j_ints j_next) from rfl]
    rfl)) h
end
