/-! THE HIGHEST TWELVE BITS OF A LONG. -/
section
variable {k pc pc2 fr lo len l1 l2 : Nat} {lv : jL} {st : List Value} {σ : jM} {Q : Option Value → jM → Prop} {val : Value} {ty : FieldType}
theorem wp_ush52 {x : Int64} (hF : j_F k pc = some (.lushr, len, l1, l2, val, ty)) (hp : pc + 1 = pc2) (h : ∀ L : Int64, L.toUInt64.toNat < 4096 → WP k pc2 lv (.long L :: st) fr lo σ Q) : WP k pc lv (iV 52 :: .long x :: st) fr lo σ Q := by
  subst hp
  refine wp_s hF rfl rfl (h (x.toUInt64 >>> ((Int32.ofInt 52).toInt64.toUInt64 &&& Int64.toUInt64 63)).toInt64 ?_)
  show (x.toUInt64 >>> ((Int32.ofInt 52).toInt64.toUInt64 &&& Int64.toUInt64 63)).toNat < 4096
  have e : ((Int32.ofInt 52).toInt64.toUInt64 &&& Int64.toUInt64 63) = (52 : UInt64) := by decide
  rw [e, UInt64.toNat_shiftRight]
  have h1 := x.toUInt64.toNat_lt
  show x.toUInt64.toNat >>> 52 < 4096
  rw [Nat.shiftRight_eq_div_pow]
  exact Nat.div_lt_of_lt_mul (Nat.lt_of_lt_of_le h1 (by decide))
theorem wp_l2ish {L : Int64} (hF : j_F k pc = some (.l2i, len, l1, l2, val, ty)) (hL : L.toUInt64.toNat < 4096) (hp : pc + 1 = pc2) (h : ∀ z : Int, (0 ≤ z ∧ z ≤ 4095) → WP k pc2 lv (iV z :: st) fr lo σ Q) : WP k pc lv (.long L :: st) fr lo σ Q := by
  subst hp
  have e : L.toInt = (L.toUInt64.toNat : Int) := BitVec.toInt_eq_toNat_of_lt (Nat.lt_of_lt_of_le (Nat.mul_lt_mul_of_pos_left hL (by decide)) (by decide))
  exact wp_s hF rfl rfl (h L.toInt (by omega))
end
