/-! NO LAW. -/
theorem l0_0 {σ : jM} (h : σ.1 148 0 = 0) : l0 σ = 22 := if_pos h
theorem l1_0 {σ : jM} (h : σ.1 148 1 = 0) : l1 σ = 22 := if_pos h
section
variable {k pc pc2 fr lo len l1 l2 : Nat} {lv : jL} {st : List Value} {σ : jM} {Q : Option Value → jM → Prop} {val : Value} {ty : FieldType}
theorem wp_addx {a b c : Int} (hF : j_F k pc = some (.iadd, len, l1, l2, val, ty)) (hc : a + b = c) (hp : pc + 1 = pc2) (h : WP k pc2 lv (iV c :: st) fr lo σ Q) : WP k pc lv (iV b :: iV a :: st) fr lo σ Q := by
  subst hc
  exact wp_add hF hp h
end
