/-! HOW MANY WORDS OF A SORT. -/
section
variable {k pc pc2 fr lo len l1 l2 : Nat} {lv : jL} {st : List Value} {σ : jM} {Q : Option Value → jM → Prop} {val : Value} {ty : FieldType}
theorem wp_laldx {a K n : Nat} {z : Int} {L : Int64} (hF : j_F k pc = some (.laload, len, l1, l2, val, ty)) (hk : KD a = K) (h0 : K ≠ 0) (hq : m_qa (jSK K) 1 n = true) (hn : Nat.ble n 2147483647 = true) (hz0 : 0 ≤ z) (hz1 : z < (n : Int)) (he : σ.2.1 a z.toNat = L) (hp : pc + 1 = pc2) (h : WP k pc2 lv (.long L :: st) fr lo σ Q) : WP k pc lv (iV z :: .ref a :: st) fr lo σ Q := by
  subst hp he
  obtain ⟨g1, g2, g3⟩ := m_ix hz0 hz1 (Nat.le_of_ble_eq_true hn)
  exact wp_eq (fun _ => jr_ldl hF (m_el rfl hk h0 hq rfl g1 (by rw [g2]; exact g3) rfl)) (by rw [g2]; exact h)
end
noncomputable def mB (x : Int64) : Int := if x.toInt = 0 then 0 else 1
theorem mB_0 {x : Int64} (h : x.toInt = 0) : mB x = 0 := if_pos h
theorem mB_1 {x : Int64} (h : x.toInt ≠ 0) : mB x = 1 := if_neg h
theorem m0_e {σ : jM} : m0 σ = mB (σ.2.1 138 18) + mB (σ.2.1 138 19) + mB (σ.2.1 138 20) + mB (σ.2.1 138 21) := rfl
theorem m1_e {σ : jM} : m1 σ = mB (σ.2.1 138 22) + mB (σ.2.1 138 23) + mB (σ.2.1 138 24) + mB (σ.2.1 138 25) := rfl
theorem m2_e {σ : jM} : m2 σ = mB (σ.2.1 138 26) + mB (σ.2.1 138 27) + mB (σ.2.1 138 28) + mB (σ.2.1 138 29) := rfl
theorem cm_e {σ : jM} : cm σ = m0 σ * m1 σ * m2 σ := rfl
theorem mul_b {a b A B : Int} (h1 : 0 ≤ a) (h2 : a ≤ A) (h3 : 0 ≤ b) (h4 : b ≤ B) : (0 ≤ a * b ∧ a * b ≤ A * B) ∧ (0 < a → 0 < b → 0 < a * b) ∧ (a * b ≠ 0 → a ≠ 0 ∧ b ≠ 0) := by
  refine ⟨⟨Int.mul_nonneg h1 h3, Int.mul_le_mul h2 h4 h3 (Int.le_trans h1 h2)⟩, fun x y => Int.mul_pos x y, fun h => ⟨?_, ?_⟩⟩
  · intro e
    exact h (by rw [e, Int.zero_mul])
  · intro e
    exact h (by rw [e, Int.mul_zero])
theorem div_b {a b : Int} (h : 0 ≤ a) (hb : 0 < b) : 0 ≤ a / b ∧ a / b ≤ a := ⟨Int.ediv_nonneg h (by omega), Int.ediv_le_self b h⟩
theorem pq {a b c : Int} (h : a < b * c) (hb : 0 < b) : a / b < c := Int.ediv_lt_of_lt_mul hb (by rw [Int.mul_comm]; exact h)
theorem mB_b {x : Int64} : 0 ≤ mB x ∧ mB x ≤ 1 := by
  unfold mB
  split <;> omega
theorem m2_b {σ : jM} : 0 ≤ m2 σ ∧ m2 σ ≤ 4 := by
  have e := m2_e (σ := σ)
  have a := mB_b (x := σ.2.1 138 26)
  have b := mB_b (x := σ.2.1 138 27)
  have c := mB_b (x := σ.2.1 138 28)
  have d := mB_b (x := σ.2.1 138 29)
  omega
