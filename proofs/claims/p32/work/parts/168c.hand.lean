/-! LONGS OF AN OBJECT, AS THEY STAND; LOTS. -/
section
variable {k pc pc2 fr lo len l1 l2 tgt : Nat} {lv : jL} {st : List Value} {σ : jM} {Q : Option Value → jM → Prop} {val : Value} {ty : FieldType}
theorem wp_plx {i ci f a K : Nat} {e : Int64} (hF : j_F k pc = some (.putfield i, 3, ci, f, val, .long)) (hk : KD a = K) (h0 : K ≠ 0) (hq : m_qf (jSK K) ci f 1 = true) (hp : pc + 3 = pc2) (hg : GI σ) (h : ∀ τ, GI τ → FRw a f σ τ → τ.2.1 a f = e → WP k pc2 lv st fr lo τ Q) : WP k pc lv (.long e :: .ref a :: st) fr lo σ Q := by
  subst hp
  exact wp_eq (fun n => (jr_pf hF (m_ob rfl hk h0 hq) rfl).trans (by rw [show j_stf (HP σ) a f (.long e) = HP (m_l σ a f e) from m_stf rfl hk h0 hq m_ne_l (show m_fv (m_l σ a f e) a 1 f = .long e by show Value.long _ = .long e; rw [m_l_eq])])) (h _ hg.l FRw.ml m_l_eq)
theorem wp_lrx {x y : Int64} (hF : j_F k pc = some (.lrem, len, l1, l2, val, ty)) (hy : y ≠ 0) (hp : pc + 1 = pc2) (h : WP k pc2 lv (.long (x - x / y * y) :: st) fr lo σ Q) : WP k pc lv (.long y :: .long x :: st) fr lo σ Q := by
  subst hp
  refine wp_s hF rfl ?_ h
  show j_go pc 1 lv (HP σ) (if y = 0 then none else some (.long (x - x / y * y) :: st)) = _
  rw [if_neg hy]
  rfl
end
theorem and31 {x : Int64} : 0 ≤ (x &&& 2147483647).toInt ∧ (x &&& 2147483647).toInt ≤ 2147483647 := by
  have hc : (2147483647 : Int64).toBitVec = 2147483647#64 := by decide
  have h1 : (x &&& 2147483647).toBitVec.msb = false := by
    rw [Int64.toBitVec_and, BitVec.msb_and, hc, show (2147483647#64).msb = false by decide, Bool.and_false]
  have h2 : (x &&& 2147483647).toInt = ((x &&& 2147483647).toBitVec.toNat : Int) := BitVec.toInt_eq_toNat_of_msb h1
  have h4 : (x &&& 2147483647).toBitVec.toNat ≤ 2147483647 := by
    rw [Int64.toBitVec_and, BitVec.toNat_and, hc]
    exact Nat.and_le_right
  omega
theorem drx {x : Int64} {m : Int} (h0 : 1 ≤ m) (h1 : m ≤ 60) : 0 ≤ Int64.toInt ((x &&& (2147483647)) / (64) - (x &&& (2147483647)) / (64) / (Int32.toInt64 (Int32.ofInt m)) * (Int32.toInt64 (Int32.ofInt m))) ∧ Int64.toInt ((x &&& (2147483647)) / (64) - (x &&& (2147483647)) / (64) / (Int32.toInt64 (Int32.ofInt m)) * (Int32.toInt64 (Int32.ofInt m))) < m := by
  have hw := and31 (x := x)
  generalize (x &&& 2147483647) = w at hw ⊢
  have ey : (Int32.toInt64 (Int32.ofInt m)).toInt = m := m_i2lt ⟨by omega, by omega⟩
  generalize Int32.toInt64 (Int32.ofInt m) = y at ey ⊢
  have e64 : (64 : Int64).toInt = 64 := by decide
  have ev : (w / 64).toInt = w.toInt / 64 := by
    rw [Int64.toInt_div, e64, Int.tdiv_eq_ediv_of_nonneg hw.1]
    exact Int.bmod_eq_of_le (by omega) (by omega)
  have hv : 0 ≤ (w / 64).toInt ∧ (w / 64).toInt ≤ 2147483647 := by omega
  generalize w / 64 = v at ev hv ⊢
  have q0 : 0 ≤ v.toInt / m := Int.ediv_nonneg hv.1 (by omega)
  have q1 : v.toInt / m ≤ v.toInt := Int.ediv_le_self m hv.1
  have eq : (v / y).toInt = v.toInt / m := by
    rw [Int64.toInt_div, ey, Int.tdiv_eq_ediv_of_nonneg hv.1]
    exact Int.bmod_eq_of_le (by omega) (by omega)
  have hm0 : v.toInt / m * m ≤ v.toInt := Int.ediv_mul_le v.toInt (by omega)
  have hm1 : 0 ≤ v.toInt / m * m := Int.mul_nonneg q0 (by omega)
  have em : (v / y * y).toInt = v.toInt / m * m := by
    rw [Int64.toInt_mul, eq, ey]
    exact Int.bmod_eq_of_le (by omega) (by omega)
  have es : (v - v / y * y).toInt = v.toInt - v.toInt / m * m := by
    rw [Int64.toInt_sub, em]
    exact Int.bmod_eq_of_le (by omega) (by omega)
  have r0 := Int.emod_nonneg v.toInt (b := m) (by omega)
  have r1 := Int.emod_lt_of_pos v.toInt (b := m) (by omega)
  have r2 := Int.emod_def v.toInt m
  rw [es]
  rw [Int.mul_comm] at r2
  omega
def SPK (σ : jM) : Prop := (σ.2.2 9 4 = 20 ∧ σ.2.2 9 5 = 45) ∨ (σ.2.2 9 4 = 45 ∧ σ.2.2 9 5 = 20)
