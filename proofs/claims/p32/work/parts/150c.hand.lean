/-! LONGS AS THEY ARE. -/
section
variable {k pc pc2 fr lo len l1 l2 : Nat} {lv : jL} {st : List Value} {σ : jM} {Q : Option Value → jM → Prop} {val : Value} {ty : FieldType}
theorem wp_lgx {s2 : List Value} {e : jE} (w : Int64) (hF : j_F k pc = some e) (hi : j_smp e.1 = true) (hs : jstep j_df (j_mx k) pc e lv s2 (HP σ) = some (pc2, lv, .long w :: st, HP σ, 0, 0)) (h : WP k pc2 lv (.long w :: st) fr lo σ Q) : WP k pc lv s2 fr lo σ Q := wp_s hF hi hs h
theorem wp_ldx {x y : Int64} (hF : j_F k pc = some (.ldiv, len, l1, l2, val, ty)) (hy : y ≠ 0) (hp : pc + 1 = pc2) (h : WP k pc2 lv (.long (x / y) :: st) fr lo σ Q) : WP k pc lv (.long y :: .long x :: st) fr lo σ Q := by
  subst hp
  refine wp_s hF rfl ?_ h
  show j_go pc 1 lv (HP σ) (if y = 0 then none else some (.long (x / y) :: st)) = _
  rw [if_neg hy]
  rfl
theorem wp_inca {i : Nat} {n a : Int} {lv2 : Int → jL} (hF : j_F k pc = some (.iinc i n, 3, l1, l2, val, ty)) (hg : j_get lv i = some (iV a)) (hn : Nat.blt i (j_mx k) = true) (hl : ∀ z, j_put1 lv i (iV z) = lv2 z) (hp : pc + 3 = pc2) (h : ∀ z : Int, (-2147483648 ≤ z ∧ z ≤ 2147483647) → WP k pc2 (lv2 z) st fr lo σ Q) : WP k pc lv st fr lo σ Q := by
  subst hp
  obtain ⟨z, hz, e⟩ := m_of (Int32.ofInt a + Int32.ofInt n)
  refine wp_s hF rfl ?_ (h z hz)
  show (match j_get lv i with | some (.int x) => cond (Nat.blt i (j_mx k) && Nat.beq 3 3) (some (pc + 3, j_put1 lv i (.int (x + Int32.ofInt n)), st, HP σ, 0, 0)) none | _ => none) = _
  rw [hg]
  show cond (Nat.blt i (j_mx k) && Nat.beq 3 3) (some (pc + 3, j_put1 lv i (.int (Int32.ofInt a + Int32.ofInt n)), st, HP σ, 0, 0)) none = _
  rw [hn, e, ← hl z]
  rfl
end
theorem bits_lt {x : Int64} (h : x.toInt ≠ 0) : (x &&& (x - (Int64.ofNat 1))).toBitVec.toNat < x.toBitVec.toNat := by
  have h0 : x.toBitVec.toNat ≠ 0 := by
    intro e
    apply h
    have e1 : x.toBitVec = 0#64 := BitVec.eq_of_toNat_eq e
    show x.toBitVec.toInt = 0
    rw [e1]
    rfl
  have h1 : (x - (Int64.ofNat 1)).toBitVec.toNat = x.toBitVec.toNat - 1 := by
    show (x.toBitVec - 1#64).toNat = _
    rw [BitVec.toNat_sub]
    have := x.toBitVec.isLt
    show (2 ^ 64 - 1 + x.toBitVec.toNat) % 2 ^ 64 = _
    omega
  show (x.toBitVec &&& (x - (Int64.ofNat 1)).toBitVec).toNat < _
  rw [BitVec.toNat_and]
  exact Nat.lt_of_le_of_lt Nat.and_le_right (by omega)
