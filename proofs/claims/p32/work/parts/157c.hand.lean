/-! SUMS THAT MAY WRAP; DIFFERENCES OF LITERALS; A SWITCH WITH NO KEYS; QUOTIENTS OF LONGS. -/
theorem m_wr {x z : Int} (hz : m_rg z) (hx : -4294967296 ≤ x ∧ x ≤ 4294967295) (e : Int32.ofInt x = Int32.ofInt z) : z = x ∨ z = x + 4294967296 ∨ z = x - 4294967296 := by
  have h := congrArg Int32.toInt e
  rw [m_to hz, Int32.toInt_ofInt] at h
  unfold Int.bmod at h
  simp only [Int32.size] at h
  have := hz.1
  have := hz.2
  split at h <;> omega
section
variable {k pc pc2 fr lo len l1 l2 tgt : Nat} {lv : jL} {st : List Value} {σ : jM} {Q : Option Value → jM → Prop} {val : Value} {ty : FieldType}
theorem wp_subx {a b c : Int} (hF : j_F k pc = some (.isub, len, l1, l2, val, ty)) (hc : a - b = c) (hp : pc + 1 = pc2) (h : WP k pc2 lv (iV c :: st) fr lo σ Q) : WP k pc lv (iV b :: iV a :: st) fr lo σ Q := by
  subst hc
  exact wp_sub hF hp h
theorem wp_mulx {a b c : Int} (hF : j_F k pc = some (.imul, len, l1, l2, val, ty)) (hc : a * b = c) (hp : pc + 1 = pc2) (h : WP k pc2 lv (iV c :: st) fr lo σ Q) : WP k pc lv (iV b :: iV a :: st) fr lo σ Q := by
  subst hc
  exact wp_mul hF hp h
theorem wp_addw {a b : Int} (hF : j_F k pc = some (.iadd, len, l1, l2, val, ty)) (ha : m_rg a) (hb : m_rg b) (hp : pc + 1 = pc2) (h : ∀ z : Int, ((-2147483648 ≤ z ∧ z ≤ 2147483647) ∧ (z = a + b ∨ z = a + b + 4294967296 ∨ z = a + b - 4294967296)) → WP k pc2 lv (iV z :: st) fr lo σ Q) : WP k pc lv (iV b :: iV a :: st) fr lo σ Q := by
  obtain ⟨z, hz, e⟩ := m_of (Int32.ofInt (a + b))
  refine wp_add hF hp ?_
  show WP k pc2 lv (.int (Int32.ofInt (a + b)) :: st) fr lo σ Q
  rw [e]
  exact h z ⟨hz, m_wr hz (by have := ha.1; have := ha.2; have := hb.1; have := hb.2; omega) e⟩
theorem wp_subw {a b : Int} (hF : j_F k pc = some (.isub, len, l1, l2, val, ty)) (ha : m_rg a) (hb : m_rg b) (hp : pc + 1 = pc2) (h : ∀ z : Int, ((-2147483648 ≤ z ∧ z ≤ 2147483647) ∧ (z = a - b ∨ z = a - b + 4294967296 ∨ z = a - b - 4294967296)) → WP k pc2 lv (iV z :: st) fr lo σ Q) : WP k pc lv (iV b :: iV a :: st) fr lo σ Q := by
  obtain ⟨z, hz, e⟩ := m_of (Int32.ofInt (a - b))
  refine wp_sub hF hp ?_
  show WP k pc2 lv (.int (Int32.ofInt (a - b)) :: st) fr lo σ Q
  rw [e]
  exact h z ⟨hz, m_wr hz (by have := ha.1; have := ha.2; have := hb.1; have := hb.2; omega) e⟩
theorem wp_lsw0 {dflt v : Int} (hF : j_F k pc = some (.lookupswitch dflt #[], len, l1, l2, val, ty)) (ht : (pc : Int) + dflt = Int.ofNat tgt) (h : WP k tgt lv st fr lo σ Q) : WP k pc lv (iV v :: st) fr lo σ Q := by
  refine wp_s hF rfl ?_ h
  show (match j_lsw pc dflt #[] (Int32.ofInt v).toInt with | some t => some (t, lv, st, HP σ, 0, 0) | none => none) = _
  have e : j_lsw pc dflt #[] (Int32.ofInt v).toInt = some tgt := by
    unfold j_lsw
    show (match (pc : Int) + dflt with | .ofNat n => some n | .negSucc _ => none) = some tgt
    rw [ht]
  rw [e]
end
theorem ldiv_lt {x : Int64} (h : 0 < x.toInt) : (x / 27).toInt < x.toInt ∧ 0 ≤ (x / 27).toInt := by
  have e27 : (27 : Int64).toInt = 27 := by decide
  have hx := Int64.toInt_lt x
  rw [Int64.toInt_div, e27, Int.tdiv_eq_ediv_of_nonneg (by omega), Int.bmod_eq_of_le (by omega) (by omega)]
  omega
/-! A ROW TOLD ON THE TAPE. -/
def CPI (σ τ : jM) (k : Int) : Prop := k = 0 ∨ τ.1 149 (k - 1).toNat = σ.1 118 k.toNat
theorem cpi_end {σ τ : jM} {k : Int} (h1 : τ.1 117 49 = k) (h2 : σ.1 118 0 = k) (h : CPI σ τ k) : tl τ = tt0 σ := by
  unfold tl tt0
  rw [h1, h2]
  by_cases h0 : k = 0
  · rw [if_pos h0, if_pos h0]
  · rw [if_neg h0, if_neg h0, h.resolve_left h0]
/-! A QUESTION'S CODES AND WHAT WAITS. -/
def stp (d c : Int) : Int := if d < 0 then -1 else if 1000 ≤ c ∨ (40 ≤ c ∧ c ≤ 59) ∨ c = 13 then d + 1 else if 60 ≤ c ∨ c = 12 then (if 1 ≤ d then d else -1) else (if 2 ≤ d then d - 1 else -1)
def dpf (f : Nat → Int) : Nat → Int
  | 0 => 0
  | n + 1 => stp (dpf f n) (f n)
def wgt (c : Int) : Int := if c ≤ 11 ∨ c = 23 ∨ c = 24 then 1 else 0
def wsf (f : Nat → Int) : Nat → Int
  | 0 => 0
  | n + 1 => wsf f n + wgt (f n)
def TOK (c : Int) : Prop := c = 10 ∨ c = 11 ∨ c = 12 ∨ c = 25
def SOK (c : Int) : Prop := (1 ≤ c ∧ c ≤ 4) ∨ (20 ≤ c ∧ c ≤ 24) ∨ c = 60
def ttP (f : Nat → Int) (n : Nat) : Prop := ∀ i : Nat, i < n → TOK (f i)
def wkP (f : Nat → Int) (b : Int) (n : Nat) : Prop := ∀ i : Nat, i < n → ((i : Int) < b → TOK (f i)) ∧ (b ≤ (i : Int) → SOK (f i))
def qbf (f : Nat → Int) (b : Int) : Nat → Int
  | 0 => -1
  | n + 1 => if (n : Int) < b then -1 else if 20 ≤ f n ∧ f n ≤ 24 then f n else qbf f b n
def sqf (f : Nat → Int) : Nat → Int
  | 0 => 0
  | n + 1 => if f n = 25 then 1 else sqf f n
theorem stp_e {d c : Int} : (d < 0 → stp d c = -1) ∧ (0 ≤ d → (1000 ≤ c ∨ (40 ≤ c ∧ c ≤ 59) ∨ c = 13) → stp d c = d + 1) ∧ (1 ≤ d → ((60 ≤ c ∧ c ≤ 999) ∨ c = 12) → stp d c = d) ∧ (2 ≤ d → (c ≤ 11 ∨ (14 ≤ c ∧ c ≤ 39)) → stp d c = d - 1) ∧ (0 ≤ stp d c → ((60 ≤ c ∧ c ≤ 999) ∨ c = 12) → 1 ≤ d) ∧ (0 ≤ stp d c → (c ≤ 11 ∨ (14 ≤ c ∧ c ≤ 39)) → 2 ≤ d) ∧ (0 ≤ stp d c → 0 ≤ d) ∧ (stp d c ≤ d + 1 ∨ stp d c = -1) := by
  unfold stp
  refine ⟨?_, ?_, ?_, ?_, ?_, ?_, ?_, ?_⟩ <;> (repeat' split) <;> omega
theorem wgt_e {c : Int} : ((c ≤ 11 ∨ c = 23 ∨ c = 24) → wgt c = 1) ∧ ((c = 12 ∨ (20 ≤ c ∧ c ≤ 22) ∨ 25 ≤ c) → wgt c = 0) ∧ 0 ≤ wgt c := by
  unfold wgt
  refine ⟨?_, ?_, ?_⟩ <;> (repeat' split) <;> omega
theorem dpf_cg {f g : Nat → Int} : ∀ {n : Nat}, (∀ i, i < n → f i = g i) → dpf f n = dpf g n
  | 0, _ => rfl
  | n + 1, h => by
    show stp (dpf f n) (f n) = stp (dpf g n) (g n)
    rw [dpf_cg (n := n) (fun i hi => h i (by omega)), h n (by omega)]
theorem wsf_cg {f g : Nat → Int} : ∀ {n : Nat}, (∀ i, i < n → f i = g i) → wsf f n = wsf g n
  | 0, _ => rfl
  | n + 1, h => by
    show wsf f n + wgt (f n) = wsf g n + wgt (g n)
    rw [wsf_cg (n := n) (fun i hi => h i (by omega)), h n (by omega)]
theorem wsf_nn {f : Nat → Int} : ∀ {n : Nat}, 0 ≤ wsf f n
  | 0 => Int.le_refl 0
  | n + 1 => by
    show 0 ≤ wsf f n + wgt (f n)
    have := wsf_nn (f := f) (n := n)
    have := (wgt_e (c := f n)).2.2
    omega
theorem dpf_mono {f : Nat → Int} {n : Nat} (h : 0 ≤ dpf f n) : ∀ {m : Nat}, m ≤ n → 0 ≤ dpf f m := by
  induction n with
  | zero => intro m hm; rw [show m = 0 by omega]; exact h
  | succ n ih =>
    intro m hm
    have h1 : 0 ≤ dpf f n := (stp_e (d := dpf f n) (c := f n)).2.2.2.2.2.2.1 h
    by_cases e : m = n + 1
    · rw [e]; exact h
    · exact ih h1 (by omega)
theorem dpf_le {f : Nat → Int} : ∀ {n : Nat}, dpf f n ≤ (n : Int)
  | 0 => Int.le_refl 0
  | n + 1 => by
    show stp (dpf f n) (f n) ≤ ((n + 1 : Nat) : Int)
    have := dpf_le (f := f) (n := n)
    have := (stp_e (d := dpf f n) (c := f n)).2.2.2.2.2.2.2
    omega
theorem sqf_1 {f : Nat → Int} {i : Nat} (h : f i = 25) : ∀ {n : Nat}, i < n → sqf f n = 1
  | 0, hi => absurd hi (Nat.not_lt_zero _)
  | n + 1, hi => by
    show (if f n = 25 then 1 else sqf f n) = 1
    by_cases e : f n = 25
    · rw [if_pos e]
    · rw [if_neg e]
      exact sqf_1 h (n := n) (by
        have : i ≠ n := fun z => e (by rw [← z]; exact h)
        omega)
theorem ttP_cg {f g : Nat → Int} {n m : Nat} (h : ∀ i, i < m → f i = g i) (hm : m ≤ n) (ht : ttP f n) : ttP g m := fun i hi => by
  rw [← h i hi]
  exact ht i (by omega)
theorem wkP_cg {f g : Nat → Int} {b : Int} {n m : Nat} (h : ∀ i, i < m → f i = g i) (hm : m ≤ n) (ht : wkP f b n) : wkP g b m := fun i hi => by
  rw [← h i hi]
  exact ht i (by omega)
theorem qbf_cg {f g : Nat → Int} {b : Int} : ∀ {n : Nat}, (∀ i, i < n → f i = g i) → qbf f b n = qbf g b n
  | 0, _ => rfl
  | n + 1, h => by
    show (if (n : Int) < b then -1 else if 20 ≤ f n ∧ f n ≤ 24 then f n else qbf f b n) = (if (n : Int) < b then -1 else if 20 ≤ g n ∧ g n ≤ 24 then g n else qbf g b n)
    rw [qbf_cg (n := n) (fun i hi => h i (by omega)), h n (by omega)]
theorem sqf_cg {f g : Nat → Int} : ∀ {n : Nat}, (∀ i, i < n → f i = g i) → sqf f n = sqf g n
  | 0, _ => rfl
  | n + 1, h => by
    show (if f n = 25 then 1 else sqf f n) = (if g n = 25 then 1 else sqf g n)
    rw [sqf_cg (n := n) (fun i hi => h i (by omega)), h n (by omega)]
