/-! A SWITCH BY KEYS; AN INT OUT OF A LONG. -/
theorem j_off_c (a o d k : Int) (r : List (Int × Int)) : Op.lookupswitch.offset ((a, o) :: r) d k = if a = k then o else Op.lookupswitch.offset r d k := rfl
section
variable {k pc pc2 fr lo len l1 l2 tgt : Nat} {lv : jL} {st : List Value} {σ : jM} {Q : Option Value → jM → Prop} {val : Value} {ty : FieldType}
theorem wp_lswl {dflt v : Int} {ps : Array (Int × Int)} (hF : j_F k pc = some (.lookupswitch dflt ps, len, l1, l2, val, ty)) (ht : j_lsw pc dflt ps (Int32.ofInt v).toInt = some tgt) (h2 : WP k tgt lv st fr lo σ Q) : WP k pc lv (iV v :: st) fr lo σ Q :=
  wp_s hF rfl (by show (match j_lsw pc dflt ps (Int32.ofInt v).toInt with | some t => some (t, lv, st, HP σ, 0, 0) | none => none) = _; rw [ht]) h2
theorem wp_lswx {dflt v x : Int} {ps : Array (Int × Int)} (hF : j_F k pc = some (.lookupswitch dflt ps, len, l1, l2, val, ty)) (hh : v = x) (ht : j_lsw pc dflt ps (Int32.ofInt x).toInt = some tgt) (h2 : WP k tgt lv st fr lo σ Q) : WP k pc lv (iV v :: st) fr lo σ Q := by
  subst hh
  exact wp_lswl hF ht h2
theorem wp_lswd {dflt v : Int} {l : List (Int × Int)} (hF : j_F k pc = some (.lookupswitch dflt (List.toArray l), len, l1, l2, val, ty)) (hv : m_rg v) (he : Op.lookupswitch.offset l dflt v = dflt) (ht : (pc : Int) + dflt = Int.ofNat tgt) (h2 : WP k tgt lv st fr lo σ Q) : WP k pc lv (iV v :: st) fr lo σ Q := by
  refine wp_lswl hF ?_ h2
  unfold j_lsw
  rw [m_to hv, show (List.toArray l).toList = l from rfl, he, ht]
theorem wp_l2ix {x : Int64} (hF : j_F k pc = some (.l2i, len, l1, l2, val, ty)) (hp : pc + 1 = pc2) (h : WP k pc2 lv (iV x.toInt :: st) fr lo σ Q) : WP k pc lv (.long x :: st) fr lo σ Q := by
  subst hp
  exact wp_s hF rfl rfl h
end
