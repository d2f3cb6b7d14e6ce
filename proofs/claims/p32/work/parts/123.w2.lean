/-! RUNS OVER THE WORLD OF NUMBERS: what must hold at the end, backwards through the code. -/
noncomputable abbrev HP (σ : jM) : List jc := m_hp jSK jKD jOld σ
abbrev KD (a : Nat) : Nat := m_kd jKD a
def WP (k pc : Nat) (lv : jL) (st : List Value) (fr lo : Nat) (σ : jM) (Q : Option Value → jM → Prop) : Prop := ∃ (n : Nat) (v : Option Value) (τ : jM), JR n k pc lv st (HP σ) 0 0 fr lo = some (v, HP τ, 0, 0) ∧ Q v τ
abbrev iV (z : Int) : Value := .int (Int32.ofInt z)
def FRw (a f : Nat) (σ τ : jM) : Prop := ∀ b j, ¬ (b = a ∧ j = f) → τ.1 b j = σ.1 b j ∧ τ.2.1 b j = σ.2.1 b j ∧ τ.2.2 b j = σ.2.2 b j
theorem FRw.na {a f b j : Nat} {σ τ : jM} (h : FRw a f σ τ) (hn : b ≠ a) : τ.1 b j = σ.1 b j := (h b j (fun z => hn z.1)).1
theorem FRw.nj {a f b j : Nat} {σ τ : jM} (h : FRw a f σ τ) (hn : j ≠ f) : τ.1 b j = σ.1 b j := (h b j (fun z => hn z.2)).1
theorem FRw.nar {a f b j : Nat} {σ τ : jM} (h : FRw a f σ τ) (hn : b ≠ a) : τ.2.2 b j = σ.2.2 b j := (h b j (fun z => hn z.1)).2.2
theorem FRw.njr {a f b j : Nat} {σ τ : jM} (h : FRw a f σ τ) (hn : j ≠ f) : τ.2.2 b j = σ.2.2 b j := (h b j (fun z => hn z.2)).2.2
theorem FR.w {W : Nat → Nat → Bool} {σ τ ρ : jM} {a f : Nat} (h : FR W σ τ) (h1 : FRw a f τ ρ) (hw : W a f = true) : FR W σ ρ := fun b j hn => by
  have hb : ¬ (b = a ∧ j = f) := fun z => by rw [z.1, z.2, hw] at hn; cases hn
  obtain ⟨e1, e2, e3⟩ := h b j hn
  obtain ⟨f1, f2, f3⟩ := h1 b j hb
  exact ⟨f1.trans e1, f2.trans e2, f3.trans e3⟩
theorem FRw.mi {a f : Nat} {σ : jM} {v : Int} : FRw a f σ (m_i σ a f v) := fun b j h => ⟨m_cond_ne h, rfl, rfl⟩
theorem FRw.ml {a f : Nat} {σ : jM} {v : Int64} : FRw a f σ (m_l σ a f v) := fun b j h => ⟨rfl, m_cond_ne h, rfl⟩
theorem FRw.mr {a f v : Nat} {σ : jM} : FRw a f σ (m_r σ a f v) := fun b j h => ⟨rfl, rfl, m_cond_ne h⟩
theorem m_fv2 {σ : jM} {a f b : Nat} (h : σ.2.2 a f = b) (h0 : Nat.beq b 0 = false) : m_fv σ a 2 f = .ref b := by
  show cond (Nat.beq (σ.2.2 a f) 0) Value.null (.ref (σ.2.2 a f)) = .ref b
  rw [h, h0]
  rfl
theorem m_fitb {z : Int} (h0 : 0 ≤ z) (h1 : z ≤ 1) : j_fit .boolean (iV z) = true := by
  have : z = 0 ∨ z = 1 := by omega
  rcases this with e | e <;> subst e <;> rfl
theorem m_tsw (v lo hi : Int) : (v < lo ∨ hi < v) ∨ (lo ≤ v ∧ v ≤ hi) := by omega
theorem m_nz {b : Int} (hb : m_rg b) (h : b ≠ 0) : ¬ Int32.ofInt b = 0 := fun e => h ((m_eq hb ⟨by decide, by decide⟩).mp e)
theorem m_div {a b : Int} (ha : m_rg a) (h0 : 0 ≤ a) (hb : m_rg b) (h1 : 0 < b) : Int32.ofInt a / Int32.ofInt b = Int32.ofInt (a / b) := by
  apply Int32.toInt_inj.mp
  have hq : 0 ≤ a / b := Int.ediv_nonneg h0 (by omega)
  have hq2 : a / b ≤ a := Int.ediv_le_self b h0
  rw [Int32.toInt_div, m_to ha, m_to hb, Int.tdiv_eq_ediv_of_nonneg h0, m_to ⟨by have := ha.1; omega, by have := ha.2; omega⟩]
  exact Int.bmod_eq_of_le (by have := ha.2; omega) (by have := ha.2; omega)
theorem m_andr {a b z : Int} (hb : m_rg b) (h0 : 0 ≤ b) (e : z = (Int32.ofInt a &&& Int32.ofInt b).toInt) : 0 ≤ z ∧ z ≤ b := by
  have hbv : (Int32.ofInt b).toBitVec.msb = false := by
    rw [BitVec.msb_eq_false_iff_two_mul_lt]
    have : (Int32.ofInt b).toBitVec.toNat = b.toNat := by
      rw [Int32.toBitVec_ofInt, BitVec.toNat_ofInt]
      have := hb.2
      omega
    rw [this]
    have := hb.2
    omega
  have h1 : (Int32.ofInt a &&& Int32.ofInt b).toBitVec.msb = false := by
    rw [Int32.toBitVec_and, BitVec.msb_and, hbv, Bool.and_false]
  have h2 : (Int32.ofInt a &&& Int32.ofInt b).toInt = ((Int32.ofInt a &&& Int32.ofInt b).toBitVec.toNat : Int) := BitVec.toInt_eq_toNat_of_msb h1
  have h3 : (Int32.ofInt b).toInt = ((Int32.ofInt b).toBitVec.toNat : Int) := BitVec.toInt_eq_toNat_of_msb hbv
  have h4 : (Int32.ofInt a &&& Int32.ofInt b).toBitVec.toNat ≤ (Int32.ofInt b).toBitVec.toNat := by
    rw [Int32.toBitVec_and, BitVec.toNat_and]
    exact Nat.and_le_right
  rw [m_to hb] at h3
  rw [e, h2]
  omega
theorem m_i2lt {a : Int} (ha : m_rg a) : (Int32.toInt64 (Int32.ofInt a)).toInt = a := by rw [Int32.toInt_toInt64, m_to ha]
theorem m_i2lnz {a : Int} (ha : m_rg a) (h : a ≠ 0) : Int32.toInt64 (Int32.ofInt a) ≠ 0 := fun e => h (by
  have := congrArg Int64.toInt e
  rw [m_i2lt ha] at this
  exact this)
theorem m_nxt : ∀ i : Nat, i < 25 → ∃ y : Int, j_nth (j_ints j_next) i = some (.int (Int32.ofInt y)) ∧ (-1 ≤ y ∧ y ≤ 4) := by
  have key : ∀ i : Nat, i < 25 → ((List.range 6).any fun d => decide (j_nth (j_ints j_next) i = some (.int (Int32.ofInt ((d : Int) - 1))))) = true := by decide +kernel
  intro i hi
  obtain ⟨d, hd, h⟩ := List.any_eq_true.mp (key i hi)
  have := List.mem_range.mp hd
  exact ⟨(d : Int) - 1, of_decide_eq_true h, by omega⟩
section WPS
variable {k pc pc2 fr lo len l1 l2 tgt : Nat} {lv lv2 : jL} {st : List Value} {σ : jM} {Q : Option Value → jM → Prop} {val : Value} {ty : FieldType}
theorem wp_eq {st2 : List Value} {σ2 : jM} (e : ∀ n, JR (n + 1) k pc lv st (HP σ) 0 0 fr lo = JR n k pc2 lv2 st2 (HP σ2) 0 0 fr lo) (h : WP k pc2 lv2 st2 fr lo σ2 Q) : WP k pc lv st fr lo σ Q := by
  obtain ⟨n, v, τ, h1, h2⟩ := h
  exact ⟨n + 1, v, τ, (e n).trans h1, h2⟩
theorem wp_s {st2 : List Value} {e : jE} (hF : j_F k pc = some e) (hi : j_smp e.1 = true) (hs : jstep j_df (j_mx k) pc e lv st (HP σ) = some (pc2, lv2, st2, HP σ, 0, 0)) (h : WP k pc2 lv2 st2 fr lo σ Q) : WP k pc lv st fr lo σ Q := wp_eq (fun _ => jr_s hF hi hs) h
theorem wp_use {Q1 : Option Value → jM → Prop} (h1 : WP k pc lv st fr lo σ Q1) (h : ∀ v τ, Q1 v τ → Q v τ) : WP k pc lv st fr lo σ Q := by
  obtain ⟨n, v, τ, e, h2⟩ := h1
  exact ⟨n, v, τ, e, h v τ h2⟩
/- loads, stores, constants -/
theorem wp_il1 {i : Fin 4} {x : Int32} (hF : j_F k pc = some (.iload_n i, len, l1, l2, val, ty)) (hg : j_get lv (i : Nat) = some (.int x)) (hp : pc + 1 = pc2) (h : WP k pc2 lv (.int x :: st) fr lo σ Q) : WP k pc lv st fr lo σ Q := by
  subst hp
  exact wp_s hF rfl (by show j_go pc 1 lv (HP σ) (match j_get lv (i : Nat) with | some (.int x) => some (.int x :: st) | _ => none) = _; rw [hg]; rfl) h
theorem wp_il2 {i : Nat} {x : Int32} (hF : j_F k pc = some (.iload i, len, l1, l2, val, ty)) (hg : j_get lv i = some (.int x)) (hp : pc + 2 = pc2) (h : WP k pc2 lv (.int x :: st) fr lo σ Q) : WP k pc lv st fr lo σ Q := by
  subst hp
  exact wp_s hF rfl (by show j_go pc 2 lv (HP σ) (match j_get lv i with | some (.int x) => some (.int x :: st) | _ => none) = _; rw [hg]; rfl) h
theorem wp_ll1 {i : Fin 4} {x : Int64} (hF : j_F k pc = some (.lload_n i, len, l1, l2, val, ty)) (hg : j_get lv (i : Nat) = some (.long x)) (hp : pc + 1 = pc2) (h : WP k pc2 lv (.long x :: st) fr lo σ Q) : WP k pc lv st fr lo σ Q := by
  subst hp
  exact wp_s hF rfl (by show j_go pc 1 lv (HP σ) (match j_get lv (i : Nat) with | some (.long x) => some (.long x :: st) | _ => none) = _; rw [hg]; rfl) h
theorem wp_ll2 {i : Nat} {x : Int64} (hF : j_F k pc = some (.lload i, len, l1, l2, val, ty)) (hg : j_get lv i = some (.long x)) (hp : pc + 2 = pc2) (h : WP k pc2 lv (.long x :: st) fr lo σ Q) : WP k pc lv st fr lo σ Q := by
  subst hp
  exact wp_s hF rfl (by show j_go pc 2 lv (HP σ) (match j_get lv i with | some (.long x) => some (.long x :: st) | _ => none) = _; rw [hg]; rfl) h
theorem wp_al1 {i : Fin 4} {x : Nat} (hF : j_F k pc = some (.aload_n i, len, l1, l2, val, ty)) (hg : j_get lv (i : Nat) = some (.ref x)) (hp : pc + 1 = pc2) (h : WP k pc2 lv (.ref x :: st) fr lo σ Q) : WP k pc lv st fr lo σ Q := by
  subst hp
  exact wp_s hF rfl (by show j_go pc 1 lv (HP σ) (match j_get lv (i : Nat) with | some (.ref x) => some (.ref x :: st) | _ => none) = _; rw [hg]; rfl) h
theorem wp_al2 {i x : Nat} (hF : j_F k pc = some (.aload i, len, l1, l2, val, ty)) (hg : j_get lv i = some (.ref x)) (hp : pc + 2 = pc2) (h : WP k pc2 lv (.ref x :: st) fr lo σ Q) : WP k pc lv st fr lo σ Q := by
  subst hp
  exact wp_s hF rfl (by show j_go pc 2 lv (HP σ) (match j_get lv i with | some (.ref x) => some (.ref x :: st) | _ => none) = _; rw [hg]; rfl) h
theorem wp_is1 {i : Fin 4} {x : Int32} (hF : j_F k pc = some (.istore_n i, len, l1, l2, val, ty)) (hn : Nat.blt (i : Nat) (j_mx k) = true) (hl : j_put1 lv (i : Nat) (.int x) = lv2) (hp : pc + 1 = pc2) (h : WP k pc2 lv2 st fr lo σ Q) : WP k pc lv (.int x :: st) fr lo σ Q := by
  subst hp hl
  exact wp_s hF rfl (by show cond (Nat.blt (i : Nat) (j_mx k)) (some (pc + 1, j_put1 lv (i : Nat) (.int x), st, HP σ, 0, 0)) none = _; rw [hn]; rfl) h
theorem wp_is2 {i : Nat} {x : Int32} (hF : j_F k pc = some (.istore i, len, l1, l2, val, ty)) (hn : Nat.blt i (j_mx k) = true) (hl : j_put1 lv i (.int x) = lv2) (hp : pc + 2 = pc2) (h : WP k pc2 lv2 st fr lo σ Q) : WP k pc lv (.int x :: st) fr lo σ Q := by
  subst hp hl
  exact wp_s hF rfl (by show cond (Nat.blt i (j_mx k)) (some (pc + 2, j_put1 lv i (.int x), st, HP σ, 0, 0)) none = _; rw [hn]; rfl) h
theorem wp_ls1 {i : Fin 4} {x : Int64} (hF : j_F k pc = some (.lstore_n i, len, l1, l2, val, ty)) (hn : Nat.blt ((i : Nat) + 1) (j_mx k) = true) (hl : j_put2 lv (i : Nat) (.long x) = lv2) (hp : pc + 1 = pc2) (h : WP k pc2 lv2 st fr lo σ Q) : WP k pc lv (.long x :: st) fr lo σ Q := by
  subst hp hl
  exact wp_s hF rfl (by show cond (Nat.blt ((i : Nat) + 1) (j_mx k)) (some (pc + 1, j_put2 lv (i : Nat) (.long x), st, HP σ, 0, 0)) none = _; rw [hn]; rfl) h
theorem wp_ls2 {i : Nat} {x : Int64} (hF : j_F k pc = some (.lstore i, len, l1, l2, val, ty)) (hn : Nat.blt (i + 1) (j_mx k) = true) (hl : j_put2 lv i (.long x) = lv2) (hp : pc + 2 = pc2) (h : WP k pc2 lv2 st fr lo σ Q) : WP k pc lv (.long x :: st) fr lo σ Q := by
  subst hp hl
  exact wp_s hF rfl (by show cond (Nat.blt (i + 1) (j_mx k)) (some (pc + 2, j_put2 lv i (.long x), st, HP σ, 0, 0)) none = _; rw [hn]; rfl) h
theorem wp_as1 {i : Fin 4} {x : Nat} (hF : j_F k pc = some (.astore_n i, len, l1, l2, val, ty)) (hn : (Nat.blt (i : Nat) (j_mx k) && Nat.ble 9 x) = true) (hl : j_put1 lv (i : Nat) (.ref x) = lv2) (hp : pc + 1 = pc2) (h : WP k pc2 lv2 st fr lo σ Q) : WP k pc lv (.ref x :: st) fr lo σ Q := by
  subst hp hl
  exact wp_s hF rfl (by show cond (Nat.blt (i : Nat) (j_mx k) && Nat.ble 9 x) (some (pc + 1, j_put1 lv (i : Nat) (.ref x), st, HP σ, 0, 0)) none = _; rw [hn]; rfl) h
theorem wp_as2 {i x : Nat} (hF : j_F k pc = some (.astore i, len, l1, l2, val, ty)) (hn : (Nat.blt i (j_mx k) && Nat.ble 9 x) = true) (hl : j_put1 lv i (.ref x) = lv2) (hp : pc + 2 = pc2) (h : WP k pc2 lv2 st fr lo σ Q) : WP k pc lv (.ref x :: st) fr lo σ Q := by
  subst hp hl
  exact wp_s hF rfl (by show cond (Nat.blt i (j_mx k) && Nat.ble 9 x) (some (pc + 2, j_put1 lv i (.ref x), st, HP σ, 0, 0)) none = _; rw [hn]; rfl) h
theorem wp_ic {n : Int} (hF : j_F k pc = some (.iconst n, len, l1, l2, val, ty)) (hp : pc + 1 = pc2) (h : WP k pc2 lv (iV n :: st) fr lo σ Q) : WP k pc lv st fr lo σ Q := by
  subst hp
  exact wp_s hF rfl rfl h
theorem wp_bi {n : Int} (hF : j_F k pc = some (.bipush n, len, l1, l2, val, ty)) (hn : (Int8.ofInt n).toInt32 = Int32.ofInt n) (hp : pc + 2 = pc2) (h : WP k pc2 lv (iV n :: st) fr lo σ Q) : WP k pc lv st fr lo σ Q := by
  subst hp
  exact wp_s hF rfl (by show j_go pc 2 lv (HP σ) (some (.int (Int8.ofInt n).toInt32 :: st)) = _; rw [hn]; rfl) h
theorem wp_si {n : Int} (hF : j_F k pc = some (.sipush n, len, l1, l2, val, ty)) (hn : (Int16.ofInt n).toInt32 = Int32.ofInt n) (hp : pc + 3 = pc2) (h : WP k pc2 lv (iV n :: st) fr lo σ Q) : WP k pc lv st fr lo σ Q := by
  subst hp
  exact wp_s hF rfl (by show j_go pc 3 lv (HP σ) (some (.int (Int16.ofInt n).toInt32 :: st)) = _; rw [hn]; rfl) h
theorem wp_lc {n : Fin 2} (hF : j_F k pc = some (.lconst n, len, l1, l2, val, ty)) (hp : pc + 1 = pc2) (h : WP k pc2 lv (.long (Int64.ofNat (n : Nat)) :: st) fr lo σ Q) : WP k pc lv st fr lo σ Q := by
  subst hp
  exact wp_s hF rfl rfl h
theorem wp_ld {i : Nat} (hF : j_F k pc = some (.ldc2_w i, len, l1, l2, val, ty)) (hp : pc + 3 = pc2) (h : WP k pc2 lv (val :: st) fr lo σ Q) : WP k pc lv st fr lo σ Q := by
  subst hp
  exact wp_s hF rfl rfl h
theorem wp_gs {i : Nat} (hF : j_F k pc = some (.getstatic i, len, l1, l2, val, ty)) (hp : pc + 3 = pc2) (h : WP k pc2 lv (val :: st) fr lo σ Q) : WP k pc lv st fr lo σ Q := by
  subst hp
  exact wp_s hF rfl rfl h
/- the stack -/
theorem wp_dup {v : Value} (hF : j_F k pc = some (.dup, len, l1, l2, val, ty)) (hv : j_cat1 v = true) (hp : pc + 1 = pc2) (h : WP k pc2 lv (v :: v :: st) fr lo σ Q) : WP k pc lv (v :: st) fr lo σ Q := by
  subst hp
  exact wp_s hF rfl (by show j_go pc 1 lv (HP σ) (cond (j_cat1 v) (some (v :: v :: st)) none) = _; rw [hv]; rfl) h
theorem wp_pop {v : Value} (hF : j_F k pc = some (.pop, len, l1, l2, val, ty)) (hv : j_cat1 v = true) (hp : pc + 1 = pc2) (h : WP k pc2 lv st fr lo σ Q) : WP k pc lv (v :: st) fr lo σ Q := by
  subst hp
  exact wp_s hF rfl (by show j_go pc 1 lv (HP σ) (cond (j_cat1 v) (some st) none) = _; rw [hv]; rfl) h
theorem wp_du2 {v w : Value} (hF : j_F k pc = some (.dup2, len, l1, l2, val, ty)) (hv : (j_cat1 v && j_cat1 w) = true) (hp : pc + 1 = pc2) (h : WP k pc2 lv (v :: w :: v :: w :: st) fr lo σ Q) : WP k pc lv (v :: w :: st) fr lo σ Q := by
  subst hp
  exact wp_s hF rfl (by show j_go pc 1 lv (HP σ) (cond (j_cat1 v && j_cat1 w) (some (v :: w :: v :: w :: st)) none) = _; rw [hv]; rfl) h
/- ints -/
theorem wp_add {a b : Int} (hF : j_F k pc = some (.iadd, len, l1, l2, val, ty)) (hp : pc + 1 = pc2) (h : WP k pc2 lv (iV (a + b) :: st) fr lo σ Q) : WP k pc lv (iV b :: iV a :: st) fr lo σ Q := by
  subst hp
  exact wp_s hF rfl (st2 := iV (a + b) :: st) (by show j_go pc 1 lv (HP σ) (some (.int (Int32.ofInt a + Int32.ofInt b) :: st)) = _; rw [m_add]; rfl) h
theorem wp_sub {a b : Int} (hF : j_F k pc = some (.isub, len, l1, l2, val, ty)) (hp : pc + 1 = pc2) (h : WP k pc2 lv (iV (a - b) :: st) fr lo σ Q) : WP k pc lv (iV b :: iV a :: st) fr lo σ Q := by
  subst hp
  exact wp_s hF rfl (st2 := iV (a - b) :: st) (by show j_go pc 1 lv (HP σ) (some (.int (Int32.ofInt a - Int32.ofInt b) :: st)) = _; rw [m_sub]; rfl) h
theorem wp_mul {a b : Int} (hF : j_F k pc = some (.imul, len, l1, l2, val, ty)) (hp : pc + 1 = pc2) (h : WP k pc2 lv (iV (a * b) :: st) fr lo σ Q) : WP k pc lv (iV b :: iV a :: st) fr lo σ Q := by
  subst hp
  exact wp_s hF rfl (st2 := iV (a * b) :: st) (by show j_go pc 1 lv (HP σ) (some (.int (Int32.ofInt a * Int32.ofInt b) :: st)) = _; rw [m_mul]; rfl) h
theorem wp_neg {a : Int} (hF : j_F k pc = some (.ineg, len, l1, l2, val, ty)) (hp : pc + 1 = pc2) (h : WP k pc2 lv (iV (-a) :: st) fr lo σ Q) : WP k pc lv (iV a :: st) fr lo σ Q := by
  subst hp
  exact wp_s hF rfl (st2 := iV (-a) :: st) (by show j_go pc 1 lv (HP σ) (some (.int (-Int32.ofInt a) :: st)) = _; rw [m_neg]; rfl) h
theorem wp_inc {i : Nat} {n a : Int} (hF : j_F k pc = some (.iinc i n, 3, l1, l2, val, ty)) (hg : j_get lv i = some (iV a)) (hn : Nat.blt i (j_mx k) = true) (hl : j_put1 lv i (iV (a + n)) = lv2) (hp : pc + 3 = pc2) (h : WP k pc2 lv2 st fr lo σ Q) : WP k pc lv st fr lo σ Q := by
  subst hp hl
  refine wp_s hF rfl ?_ h
  show (match j_get lv i with | some (.int x) => cond (Nat.blt i (j_mx k) && Nat.beq 3 3) (some (pc + 3, j_put1 lv i (.int (x + Int32.ofInt n)), st, HP σ, 0, 0)) none | _ => none) = _
  rw [hg]
  show cond (Nat.blt i (j_mx k) && Nat.beq 3 3) (some (pc + 3, j_put1 lv i (.int (Int32.ofInt a + Int32.ofInt n)), st, HP σ, 0, 0)) none = _
  rw [hn, m_add]
  rfl
/-- an int out of two, whatever it is -/
theorem wp_any2 {x y w : Int32} {e : jE} (hF : j_F k pc = some e) (hi : j_smp e.1 = true) (hs : jstep j_df (j_mx k) pc e lv (.int y :: .int x :: st) (HP σ) = some (pc2, lv, .int w :: st, HP σ, 0, 0)) (h : ∀ z : Int, (-2147483648 ≤ z ∧ z ≤ 2147483647) → WP k pc2 lv (iV z :: st) fr lo σ Q) : WP k pc lv (.int y :: .int x :: st) fr lo σ Q := by
  obtain ⟨z, hz, e⟩ := m_of w
  subst e
  exact wp_s hF hi hs (h z hz)
/-- an int out of one value, whatever it is -/
theorem wp_any1 {v : Value} {w : Int32} {e : jE} (hF : j_F k pc = some e) (hi : j_smp e.1 = true) (hs : jstep j_df (j_mx k) pc e lv (v :: st) (HP σ) = some (pc2, lv, .int w :: st, HP σ, 0, 0)) (h : ∀ z : Int, (-2147483648 ≤ z ∧ z ≤ 2147483647) → WP k pc2 lv (iV z :: st) fr lo σ Q) : WP k pc lv (v :: st) fr lo σ Q := by
  obtain ⟨z, hz, e⟩ := m_of w
  subst e
  exact wp_s hF hi hs (h z hz)
/-- a long, whatever it is -/
theorem wp_lng {s2 : List Value} {w : Int64} {e : jE} (hF : j_F k pc = some e) (hi : j_smp e.1 = true) (hs : jstep j_df (j_mx k) pc e lv s2 (HP σ) = some (pc2, lv, .long w :: st, HP σ, 0, 0)) (h : ∀ L : Int64, WP k pc2 lv (.long L :: st) fr lo σ Q) : WP k pc lv s2 fr lo σ Q := wp_s hF hi hs (h w)
/- branches: what is known behind them -/
theorem wp_go {off : Int} (hF : j_F k pc = some (.goto off, len, tgt, l2, val, ty)) (h : WP k tgt lv st fr lo σ Q) : WP k pc lv st fr lo σ Q := wp_s hF rfl rfl h
theorem wp_if {cd : ClassFile.Cond} {off : Int} {x : Int32} (hF : j_F k pc = some (.ifCond cd off, len, tgt, l2, val, ty)) (hp : pc + 3 = pc2) (h1 : j_ck cd x 0 = true → WP k tgt lv st fr lo σ Q) (h2 : j_ck cd x 0 = false → WP k pc2 lv st fr lo σ Q) : WP k pc lv (.int x :: st) fr lo σ Q := by
  subst hp
  cases hb : j_ck cd x 0 with
  | true => exact wp_eq (fun _ => jr_if1 hF hb) (h1 hb)
  | false => exact wp_eq (fun _ => jr_if0 hF hb) (h2 hb)
theorem wp_ii {cd : ClassFile.Cond} {off : Int} {x y : Int32} (hF : j_F k pc = some (.if_icmp cd off, len, tgt, l2, val, ty)) (hp : pc + 3 = pc2) (h1 : j_ck cd x y = true → WP k tgt lv st fr lo σ Q) (h2 : j_ck cd x y = false → WP k pc2 lv st fr lo σ Q) : WP k pc lv (.int y :: .int x :: st) fr lo σ Q := by
  subst hp
  cases hb : j_ck cd x y with
  | true => exact wp_eq (fun _ => jr_ic1 hF hb) (h1 hb)
  | false => exact wp_eq (fun _ => jr_ic0 hF hb) (h2 hb)
def m_ck (cd : ClassFile.Cond) (a b : Int) : Prop := match cd with | .eq => a = b | .ne => a ≠ b | .lt => a < b | .ge => b ≤ a | .gt => b < a | .le => a ≤ b
theorem m_ck1 {cd : ClassFile.Cond} {a b : Int} (ha : m_rg a) (hb : m_rg b) (h : j_ck cd (Int32.ofInt a) (Int32.ofInt b) = true) : m_ck cd a b := by
  cases cd with
  | eq => exact (m_eq ha hb).mp (of_decide_eq_true h)
  | ne => exact fun e => (of_decide_eq_true h) ((m_eq ha hb).mpr e)
  | lt => exact (m_lt ha hb).mp (of_decide_eq_true h)
  | ge => exact (m_le hb ha).mp (of_decide_eq_true h)
  | gt => exact (m_lt hb ha).mp (of_decide_eq_true h)
  | le => exact (m_le ha hb).mp (of_decide_eq_true h)
theorem m_ck0 {cd : ClassFile.Cond} {a b : Int} (ha : m_rg a) (hb : m_rg b) (h : j_ck cd (Int32.ofInt a) (Int32.ofInt b) = false) : ¬ m_ck cd a b := by
  cases cd with
  | eq => exact fun e => (of_decide_eq_false h) ((m_eq ha hb).mpr e)
  | ne => exact fun e => (of_decide_eq_false h) (fun z => e ((m_eq ha hb).mp z))
  | lt => exact fun e => (of_decide_eq_false h) ((m_lt ha hb).mpr e)
  | ge => exact fun e => (of_decide_eq_false h) ((m_le hb ha).mpr e)
  | gt => exact fun e => (of_decide_eq_false h) ((m_lt hb ha).mpr e)
  | le => exact fun e => (of_decide_eq_false h) ((m_le ha hb).mpr e)
theorem wp_if0 {cd : ClassFile.Cond} {off : Int} {a : Int} (hF : j_F k pc = some (.ifCond cd off, len, tgt, l2, val, ty)) (ha : m_rg a) (hp : pc + 3 = pc2) (h1 : m_ck cd a 0 → WP k tgt lv st fr lo σ Q) (h2 : ¬ m_ck cd a 0 → WP k pc2 lv st fr lo σ Q) : WP k pc lv (iV a :: st) fr lo σ Q :=
  wp_if hF hp (fun h => h1 (m_ck1 ha ⟨by decide, by decide⟩ h)) (fun h => h2 (m_ck0 ha ⟨by decide, by decide⟩ h))
theorem wp_ii0 {cd : ClassFile.Cond} {off : Int} {a b : Int} (hF : j_F k pc = some (.if_icmp cd off, len, tgt, l2, val, ty)) (ha : m_rg a) (hb : m_rg b) (hp : pc + 3 = pc2) (h1 : m_ck cd a b → WP k tgt lv st fr lo σ Q) (h2 : ¬ m_ck cd a b → WP k pc2 lv st fr lo σ Q) : WP k pc lv (iV b :: iV a :: st) fr lo σ Q :=
  wp_ii hF hp (fun h => h1 (m_ck1 ha hb h)) (fun h => h2 (m_ck0 ha hb h))
/- fields -/
theorem wp_gi {i ci f a K : Nat} {e : Int} (hF : j_F k pc = some (.getfield i, 3, ci, f, val, ty)) (hk : KD a = K) (h0 : K ≠ 0) (hq : m_qf (jSK K) ci f 0 = true) (he : σ.1 a f = e) (hp : pc + 3 = pc2) (h : WP k pc2 lv (iV e :: st) fr lo σ Q) : WP k pc lv (.ref a :: st) fr lo σ Q := by
  subst hp he
  exact wp_eq (fun _ => jr_gf hF (m_gf rfl hk h0 hq rfl)) h
theorem wp_gl {i ci f a K : Nat} {e : Int64} (hF : j_F k pc = some (.getfield i, 3, ci, f, val, ty)) (hk : KD a = K) (h0 : K ≠ 0) (hq : m_qf (jSK K) ci f 1 = true) (he : σ.2.1 a f = e) (hp : pc + 3 = pc2) (h : WP k pc2 lv (.long e :: st) fr lo σ Q) : WP k pc lv (.ref a :: st) fr lo σ Q := by
  subst hp he
  exact wp_eq (fun _ => jr_gf hF (m_gf rfl hk h0 hq rfl)) h
theorem wp_gr {i ci f a K c b : Nat} (hF : j_F k pc = some (.getfield i, 3, ci, f, val, ty)) (hk : KD a = K) (h0 : K ≠ 0) (hq : m_qf (jSK K) ci f c = true) (hv : m_fv σ a c f = .ref b) (hp : pc + 3 = pc2) (h : WP k pc2 lv (.ref b :: st) fr lo σ Q) : WP k pc lv (.ref a :: st) fr lo σ Q := by
  subst hp
  exact wp_eq (fun _ => jr_gf hF (m_gf rfl hk h0 hq hv)) h
theorem wp_pi {i ci f a K : Nat} {e lo hi : Int} {lm : Nat} (hF : j_F k pc = some (.putfield i, 3, ci, f, val, ty)) (hk : KD a = K) (h0 : K ≠ 0) (hq : m_qf (jSK K) ci f 0 = true) (hf : j_fit ty (iV e) = true) (hp : pc + 3 = pc2) (hg : GI σ) (er : jRG K f = (lo, hi)) (h1 : lo ≤ e) (h2 : e ≤ hi)
    (h : ∀ τ, GI τ → FRw a f σ τ → τ.1 a f = e → WP k pc2 lv st fr lm τ Q) : WP k pc lv (iV e :: .ref a :: st) fr lm σ Q := by
  subst hp
  exact wp_eq (fun n => (jr_pf hF (m_ob rfl hk h0 hq) hf).trans (by rw [show j_stf (HP σ) a f (iV e) = HP (m_i σ a f e) from m_stf rfl hk h0 hq m_ne_i (show m_fv (m_i σ a f e) a 0 f = iV e by show iV _ = iV e; rw [m_i_eq])])) (h _ (hg.i hk er h1 h2) FRw.mi m_i_eq)
theorem wp_pl {i ci f a K : Nat} {e : Int64} (hF : j_F k pc = some (.putfield i, 3, ci, f, val, .long)) (hk : KD a = K) (h0 : K ≠ 0) (hq : m_qf (jSK K) ci f 1 = true) (hp : pc + 3 = pc2) (hg : GI σ) (h : ∀ τ, GI τ → FRw a f σ τ → WP k pc2 lv st fr lo τ Q) : WP k pc lv (.long e :: .ref a :: st) fr lo σ Q := by
  subst hp
  exact wp_eq (fun n => (jr_pf hF (m_ob rfl hk h0 hq) rfl).trans (by rw [show j_stf (HP σ) a f (.long e) = HP (m_l σ a f e) from m_stf rfl hk h0 hq m_ne_l (show m_fv (m_l σ a f e) a 1 f = .long e by show Value.long _ = .long e; rw [m_l_eq])])) (h _ hg.l FRw.ml)
theorem wp_pr {i ci f a K b : Nat} {N : String} (hF : j_F k pc = some (.putfield i, 3, ci, f, val, .object N)) (hk : KD a = K) (h0 : K ≠ 0) (hq : m_qf (jSK K) ci f 2 = true) (hb : Nat.beq b 0 = false) (hp : pc + 3 = pc2) (hg : GI σ) (h : ∀ τ, GI τ → FRw a f σ τ → τ.2.2 a f = b → WP k pc2 lv st fr lo τ Q) : WP k pc lv (.ref b :: .ref a :: st) fr lo σ Q := by
  subst hp
  exact wp_eq (fun n => (jr_pf hF (m_ob rfl hk h0 hq) rfl).trans (by rw [show j_stf (HP σ) a f (.ref b) = HP (m_r σ a f b) from m_stf rfl hk h0 hq m_ne_r (m_fv2 m_r_eq hb)])) (h _ hg.r FRw.mr m_r_eq)
theorem wp_glA {i ci f a K : Nat} (hF : j_F k pc = some (.getfield i, 3, ci, f, val, ty)) (hk : KD a = K) (h0 : K ≠ 0) (hq : m_qf (jSK K) ci f 1 = true) (hp : pc + 3 = pc2) (h : ∀ e : Int64, WP k pc2 lv (.long e :: st) fr lo σ Q) : WP k pc lv (.ref a :: st) fr lo σ Q := wp_gl hF hk h0 hq rfl hp (h _)
/- arrays -/
theorem wp_len {a K t n : Nat} (hF : j_F k pc = some (.arraylength, len, l1, l2, val, ty)) (hk : KD a = K) (h0 : K ≠ 0) (hq : m_qa (jSK K) t n = true) (hp : pc + 1 = pc2) (h : WP k pc2 lv (iV n :: st) fr lo σ Q) : WP k pc lv (.ref a :: st) fr lo σ Q := by
  subst hp
  refine wp_eq (fun _ => jr_al hF (m_al rfl hk h0 hq)) ?_
  rw [← Int32.ofInt_eq_ofNat]
  exact h
theorem wp_iald {a K n : Nat} {z e : Int} (hF : j_F k pc = some (.iaload, len, l1, l2, val, ty)) (hk : KD a = K) (h0 : K ≠ 0) (hq : m_qa (jSK K) 0 n = true) (hn : Nat.ble n 2147483647 = true) (hz0 : 0 ≤ z) (hz1 : z < (n : Int)) (he : σ.1 a z.toNat = e) (hp : pc + 1 = pc2) (h : WP k pc2 lv (iV e :: st) fr lo σ Q) : WP k pc lv (iV z :: .ref a :: st) fr lo σ Q := by
  subst hp he
  obtain ⟨g1, g2, g3⟩ := m_ix hz0 hz1 (Nat.le_of_ble_eq_true hn)
  exact wp_eq (fun _ => jr_ldi hF (m_el rfl hk h0 hq rfl g1 (by rw [g2]; exact g3) (by rw [g2]; rfl))) h
theorem wp_cald {a K n : Nat} {z e : Int} (hF : j_F k pc = some (.caload, len, l1, l2, val, ty)) (hk : KD a = K) (h0 : K ≠ 0) (hq : m_qa (jSK K) 2 n = true) (hn : Nat.ble n 2147483647 = true) (hz0 : 0 ≤ z) (hz1 : z < (n : Int)) (he : σ.1 a z.toNat = e) (hp : pc + 1 = pc2) (h : WP k pc2 lv (iV e :: st) fr lo σ Q) : WP k pc lv (iV z :: .ref a :: st) fr lo σ Q := by
  subst hp he
  obtain ⟨g1, g2, g3⟩ := m_ix hz0 hz1 (Nat.le_of_ble_eq_true hn)
  exact wp_eq (fun _ => jr_ldc hF (m_el rfl hk h0 hq rfl g1 (by rw [g2]; exact g3) (by rw [g2]; rfl))) h
theorem wp_bald {a K n : Nat} {z e : Int} (hF : j_F k pc = some (.baload, len, l1, l2, val, ty)) (hk : KD a = K) (h0 : K ≠ 0) (hq : m_qa (jSK K) 3 n = true) (hn : Nat.ble n 2147483647 = true) (hz0 : 0 ≤ z) (hz1 : z < (n : Int)) (he : σ.1 a z.toNat = e) (hp : pc + 1 = pc2) (h : WP k pc2 lv (iV e :: st) fr lo σ Q) : WP k pc lv (iV z :: .ref a :: st) fr lo σ Q := by
  subst hp he
  obtain ⟨g1, g2, g3⟩ := m_ix hz0 hz1 (Nat.le_of_ble_eq_true hn)
  exact wp_eq (fun _ => jr_ldb hF (m_el rfl hk h0 hq rfl g1 (by rw [g2]; exact g3) (by rw [g2]; rfl))) h
theorem wp_lald {a K n : Nat} {z : Int} (hF : j_F k pc = some (.laload, len, l1, l2, val, ty)) (hk : KD a = K) (h0 : K ≠ 0) (hq : m_qa (jSK K) 1 n = true) (hn : Nat.ble n 2147483647 = true) (hz0 : 0 ≤ z) (hz1 : z < (n : Int)) (hp : pc + 1 = pc2) (h : ∀ L : Int64, WP k pc2 lv (.long L :: st) fr lo σ Q) : WP k pc lv (iV z :: .ref a :: st) fr lo σ Q := by
  subst hp
  obtain ⟨g1, g2, g3⟩ := m_ix hz0 hz1 (Nat.le_of_ble_eq_true hn)
  exact wp_eq (fun _ => jr_ldl hF (m_el rfl hk h0 hq rfl g1 (by rw [g2]; exact g3) rfl)) (h _)
theorem wp_iast {a K n : Nat} {z e : Int} (hF : j_F k pc = some (.iastore, len, l1, l2, val, ty)) (hk : KD a = K) (h0 : K ≠ 0) (hq : m_qa (jSK K) 0 n = true) (hn : Nat.ble n 2147483647 = true) (hz0 : 0 ≤ z) (hz1 : z < (n : Int)) (hp : pc + 1 = pc2) (hg : GI σ) {lo hi : Int} {lm : Nat} (er : jRG K z.toNat = (lo, hi)) (h1 : lo ≤ e) (h2 : e ≤ hi)
    (h : ∀ τ, GI τ → FRw a z.toNat σ τ → τ.1 a z.toNat = e → WP k pc2 lv st fr lm τ Q) : WP k pc lv (iV e :: iV z :: .ref a :: st) fr lm σ Q := by
  subst hp
  obtain ⟨g1, g2, g3⟩ := m_ix hz0 hz1 (Nat.le_of_ble_eq_true hn)
  exact wp_eq (fun _ => (jr_sti hF (m_aok rfl hk h0 hq g1 (by rw [g2]; exact g3)) g2).trans (by rw [show j_stf (HP σ) a z.toNat (iV e) = HP (m_i σ a z.toNat e) from m_sta rfl hk h0 hq m_ne_i (show cond (Nat.beq 0 1) (Value.long ((m_i σ a z.toNat e).2.1 a z.toNat)) (.int (Int32.ofInt ((m_i σ a z.toNat e).1 a z.toNat))) = iV e by rw [m_i_eq]; rfl)])) (h _ (hg.i hk er h1 h2) FRw.mi m_i_eq)
theorem wp_bast {a K n : Nat} {z e : Int} (hF : j_F k pc = some (.bastore, len, l1, l2, val, ty)) (hk : KD a = K) (h0 : K ≠ 0) (hq : m_qa (jSK K) 3 n = true) (hn : Nat.ble n 2147483647 = true) (hz0 : 0 ≤ z) (hz1 : z < (n : Int)) (hp : pc + 1 = pc2) (hg : GI σ) {lo hi : Int} {lm : Nat} (er : jRG K z.toNat = (lo, hi)) (h1 : 0 ≤ e) (h2 : e ≤ 1) (h3 : lo ≤ 0) (h4 : 1 ≤ hi)
    (h : ∀ τ, GI τ → FRw a z.toNat σ τ → τ.1 a z.toNat = e → WP k pc2 lv st fr lm τ Q) : WP k pc lv (iV e :: iV z :: .ref a :: st) fr lm σ Q := by
  subst hp
  obtain ⟨g1, g2, g3⟩ := m_ix hz0 hz1 (Nat.le_of_ble_eq_true hn)
  have hw : narrow .boolean (iV e) = iV e := by
    have : e = 0 ∨ e = 1 := by omega
    rcases this with q | q <;> subst q <;> rfl
  refine wp_eq (fun _ => (jr_s hF rfl (?_ : jstep j_df (j_mx k) pc (.bastore, len, l1, l2, val, ty) lv (iV e :: iV z :: .ref a :: st) (HP σ) = some (pc + 1, lv, st, HP (m_i σ a z.toNat e), 0, 0)))) (h _ (hg.i hk er (by omega) (by omega)) FRw.mi m_i_eq)
  show (match j_ast (HP σ) a 3 (Int32.ofInt z) (narrow .boolean (iV e)) with | some hp' => some (pc + 1, lv, st, hp', 0, 0) | none => none) = _
  rw [hw, j_ast_ok (m_aok rfl hk h0 hq g1 (by rw [g2]; exact g3)) g2, show j_stf (HP σ) a z.toNat (iV e) = HP (m_i σ a z.toNat e) from m_sta rfl hk h0 hq m_ne_i (show cond (Nat.beq 3 1) (Value.long ((m_i σ a z.toNat e).2.1 a z.toNat)) (.int (Int32.ofInt ((m_i σ a z.toNat e).1 a z.toNat))) = iV e by rw [m_i_eq]; rfl)]
theorem wp_last {a K n : Nat} {z : Int} {e : Int64} (hF : j_F k pc = some (.lastore, len, l1, l2, val, ty)) (hk : KD a = K) (h0 : K ≠ 0) (hq : m_qa (jSK K) 1 n = true) (hn : Nat.ble n 2147483647 = true) (hz0 : 0 ≤ z) (hz1 : z < (n : Int)) (hp : pc + 1 = pc2) (hg : GI σ) (h : ∀ τ, GI τ → FRw a z.toNat σ τ → WP k pc2 lv st fr lo τ Q) : WP k pc lv (.long e :: iV z :: .ref a :: st) fr lo σ Q := by
  subst hp
  obtain ⟨g1, g2, g3⟩ := m_ix hz0 hz1 (Nat.le_of_ble_eq_true hn)
  exact wp_eq (fun _ => (jr_stl hF (m_aok rfl hk h0 hq g1 (by rw [g2]; exact g3)) g2).trans (by rw [show j_stf (HP σ) a z.toNat (.long e) = HP (m_l σ a z.toNat e) from m_sta rfl hk h0 hq m_ne_l (show cond (Nat.beq 1 1) (Value.long ((m_l σ a z.toNat e).2.1 a z.toNat)) (.int (Int32.ofInt ((m_l σ a z.toNat e).1 a z.toNat))) = .long e by rw [m_l_eq]; rfl)])) (h _ hg.l FRw.ml)
/- ends -/
theorem wp_ri {e : Int} (hF : j_F k pc = some (.ireturn, len, l1, l2, val, ty)) (hf : j_fit ty (iV e) = true) (h : Q (some (iV e)) σ) : WP k pc lv [iV e] fr lo σ Q := ⟨1, _, σ, jr_ri (n := 0) hF hf, h⟩
theorem wp_rl {e : Int64} (hF : j_F k pc = some (.lreturn, len, l1, l2, val, ty)) (h : Q (some (.long e)) σ) : WP k pc lv [.long e] fr lo σ Q := ⟨1, _, σ, jr_rl (n := 0) hF, h⟩
theorem wp_rv (hF : j_F k pc = some (.return_, len, l1, l2, val, ty)) (h : Q none σ) : WP k pc lv [] fr lo σ Q := ⟨1, _, σ, jr_rr (n := 0) hF, h⟩
/- calls -/
theorem wp_cS {i j na mx : Nat} {as rest : List Value} (hF : j_F k pc = some (.invokestatic i, 3, j, na, val, ty)) (hj : Nat.ble 1001 j = false) (hmx : j_mx j = mx) (hna : na = as.length) (hc : (Nat.ble (lg_sl as).length mx && Nat.ble (rest.map fun v => v.category).sum 8) = true) (hfr : 1 ≤ fr) (hlo : mx + 19 ≤ lo) (hp : pc + 3 = pc2)
    (h : WP j 0 (lv_args 0 as) [] (fr - 1) (lo - (mx + 19)) σ (fun v τ => WP k pc2 lv (v.toList ++ rest) fr lo τ Q)) : WP k pc lv (as.reverse ++ rest) fr lo σ Q := by
  subst hp
  obtain ⟨n, v, τ, e, m, w, ρ, e2, hQ⟩ := h
  rw [Bool.and_eq_true] at hc
  refine ⟨n + m + 1, w, ρ, ?_, hQ⟩
  refine (jr_cS (n := n + m) (fr2 := fr - 1) (lo2 := lo - (mx + 19)) hF hna ?_ (jr_upl e (Nat.le_add_right n m)) hj).trans (jr_upl e2 (Nat.le_add_left m n))
  unfold j_cnd
  rw [hmx, hc.1, hc.2, Nat.ble_eq_true_of_le hfr, Nat.ble_eq_true_of_le hlo, Nat.beq_refl, Nat.beq_refl]
  rfl
theorem wp_cV {i j na mx a K ci : Nat} {as rest : List Value} (hF : j_F k pc = some (.invokevirtual i, 3, j, na, val, ty)) (hk : KD a = K) (h0 : K ≠ 0) (hq : (!(jSK K).1 && Nat.beq (jSK K).2.1 ci) = true) (hrc : j_rc j = ci) (hmx : j_mx j = mx) (hna : na = as.length + 1) (hc : (Nat.ble (lg_sl (.ref a :: as)).length mx && Nat.ble (rest.map fun v => v.category).sum 8) = true) (hfr : 1 ≤ fr) (hlo : mx + 19 ≤ lo) (hp : pc + 3 = pc2)
    (h : WP j 0 (lv_args 0 (.ref a :: as)) [] (fr - 1) (lo - (mx + 19)) σ (fun v τ => WP k pc2 lv (v.toList ++ rest) fr lo τ Q)) : WP k pc lv ((.ref a :: as).reverse ++ rest) fr lo σ Q := by
  subst hp
  obtain ⟨n, v, τ, e, m, w, ρ, e2, hQ⟩ := h
  rw [Bool.and_eq_true] at hc
  refine ⟨n + m + 1, w, ρ, ?_, hQ⟩
  have hr : j_obr (HP σ) a (j_rc j) = true := by
    rw [Bool.and_eq_true, Bool.not_eq_true'] at hq
    have e1 : m_cell σ a (jSK K) = (false, ci, m_fs σ a (jSK K).2.2.1 0) := by
      unfold m_cell
      rw [hq.1, Nat.eq_of_beq_eq_true hq.2]
      rfl
    unfold j_obr
    rw [show j_nth (HP σ) a = _ from m_at rfl hk h0, e1, hrc]
    show (Nat.beq ci ci && (Nat.ble 9 a || Nat.beq ci 99)) = true
    rw [Nat.beq_refl, Nat.ble_eq_true_of_le (m_kd_some hk h0).1]
    rfl
  refine (jr_cV (n := n + m) (fr2 := fr - 1) (lo2 := lo - (mx + 19)) hF hr hna ?_ (jr_upl e (Nat.le_add_right n m))).trans (jr_upl e2 (Nat.le_add_left m n))
  unfold j_cnd
  rw [hmx, hc.1, hc.2, Nat.ble_eq_true_of_le hfr, Nat.ble_eq_true_of_le hlo, Nat.beq_refl, Nat.beq_refl]
  rfl
theorem wp_z_eq {off a : Int} (hF : j_F k pc = some (.ifCond .eq off, len, tgt, l2, val, ty)) (ha : m_rg a) (hp : pc + 3 = pc2) (h1 : a = 0 → WP k tgt lv st fr lo σ Q) (h2 : a ≠ 0 → WP k pc2 lv st fr lo σ Q) : WP k pc lv (iV a :: st) fr lo σ Q := wp_if0 hF ha hp (fun h => h1 h) (fun h => h2 (by have h : ¬ (a = 0) := h; omega))
theorem wp_i_eq {off a b : Int} (hF : j_F k pc = some (.if_icmp .eq off, len, tgt, l2, val, ty)) (ha : m_rg a) (hb : m_rg b) (hp : pc + 3 = pc2) (h1 : a = b → WP k tgt lv st fr lo σ Q) (h2 : a ≠ b → WP k pc2 lv st fr lo σ Q) : WP k pc lv (iV b :: iV a :: st) fr lo σ Q := wp_ii0 hF ha hb hp (fun h => h1 h) (fun h => h2 (by have h : ¬ (a = b) := h; omega))
theorem wp_z_ne {off a : Int} (hF : j_F k pc = some (.ifCond .ne off, len, tgt, l2, val, ty)) (ha : m_rg a) (hp : pc + 3 = pc2) (h1 : a ≠ 0 → WP k tgt lv st fr lo σ Q) (h2 : a = 0 → WP k pc2 lv st fr lo σ Q) : WP k pc lv (iV a :: st) fr lo σ Q := wp_if0 hF ha hp (fun h => h1 h) (fun h => h2 (by have h : ¬ (a ≠ 0) := h; omega))
theorem wp_i_ne {off a b : Int} (hF : j_F k pc = some (.if_icmp .ne off, len, tgt, l2, val, ty)) (ha : m_rg a) (hb : m_rg b) (hp : pc + 3 = pc2) (h1 : a ≠ b → WP k tgt lv st fr lo σ Q) (h2 : a = b → WP k pc2 lv st fr lo σ Q) : WP k pc lv (iV b :: iV a :: st) fr lo σ Q := wp_ii0 hF ha hb hp (fun h => h1 h) (fun h => h2 (by have h : ¬ (a ≠ b) := h; omega))
theorem wp_z_lt {off a : Int} (hF : j_F k pc = some (.ifCond .lt off, len, tgt, l2, val, ty)) (ha : m_rg a) (hp : pc + 3 = pc2) (h1 : a < 0 → WP k tgt lv st fr lo σ Q) (h2 : 0 ≤ a → WP k pc2 lv st fr lo σ Q) : WP k pc lv (iV a :: st) fr lo σ Q := wp_if0 hF ha hp (fun h => h1 h) (fun h => h2 (by have h : ¬ (a < 0) := h; omega))
theorem wp_i_lt {off a b : Int} (hF : j_F k pc = some (.if_icmp .lt off, len, tgt, l2, val, ty)) (ha : m_rg a) (hb : m_rg b) (hp : pc + 3 = pc2) (h1 : a < b → WP k tgt lv st fr lo σ Q) (h2 : b ≤ a → WP k pc2 lv st fr lo σ Q) : WP k pc lv (iV b :: iV a :: st) fr lo σ Q := wp_ii0 hF ha hb hp (fun h => h1 h) (fun h => h2 (by have h : ¬ (a < b) := h; omega))
theorem wp_z_ge {off a : Int} (hF : j_F k pc = some (.ifCond .ge off, len, tgt, l2, val, ty)) (ha : m_rg a) (hp : pc + 3 = pc2) (h1 : 0 ≤ a → WP k tgt lv st fr lo σ Q) (h2 : a < 0 → WP k pc2 lv st fr lo σ Q) : WP k pc lv (iV a :: st) fr lo σ Q := wp_if0 hF ha hp (fun h => h1 h) (fun h => h2 (by have h : ¬ (0 ≤ a) := h; omega))
theorem wp_i_ge {off a b : Int} (hF : j_F k pc = some (.if_icmp .ge off, len, tgt, l2, val, ty)) (ha : m_rg a) (hb : m_rg b) (hp : pc + 3 = pc2) (h1 : b ≤ a → WP k tgt lv st fr lo σ Q) (h2 : a < b → WP k pc2 lv st fr lo σ Q) : WP k pc lv (iV b :: iV a :: st) fr lo σ Q := wp_ii0 hF ha hb hp (fun h => h1 h) (fun h => h2 (by have h : ¬ (b ≤ a) := h; omega))
theorem wp_z_gt {off a : Int} (hF : j_F k pc = some (.ifCond .gt off, len, tgt, l2, val, ty)) (ha : m_rg a) (hp : pc + 3 = pc2) (h1 : 0 < a → WP k tgt lv st fr lo σ Q) (h2 : a ≤ 0 → WP k pc2 lv st fr lo σ Q) : WP k pc lv (iV a :: st) fr lo σ Q := wp_if0 hF ha hp (fun h => h1 h) (fun h => h2 (by have h : ¬ (0 < a) := h; omega))
theorem wp_i_gt {off a b : Int} (hF : j_F k pc = some (.if_icmp .gt off, len, tgt, l2, val, ty)) (ha : m_rg a) (hb : m_rg b) (hp : pc + 3 = pc2) (h1 : b < a → WP k tgt lv st fr lo σ Q) (h2 : a ≤ b → WP k pc2 lv st fr lo σ Q) : WP k pc lv (iV b :: iV a :: st) fr lo σ Q := wp_ii0 hF ha hb hp (fun h => h1 h) (fun h => h2 (by have h : ¬ (b < a) := h; omega))
theorem wp_z_le {off a : Int} (hF : j_F k pc = some (.ifCond .le off, len, tgt, l2, val, ty)) (ha : m_rg a) (hp : pc + 3 = pc2) (h1 : a ≤ 0 → WP k tgt lv st fr lo σ Q) (h2 : 0 < a → WP k pc2 lv st fr lo σ Q) : WP k pc lv (iV a :: st) fr lo σ Q := wp_if0 hF ha hp (fun h => h1 h) (fun h => h2 (by have h : ¬ (a ≤ 0) := h; omega))
theorem wp_i_le {off a b : Int} (hF : j_F k pc = some (.if_icmp .le off, len, tgt, l2, val, ty)) (ha : m_rg a) (hb : m_rg b) (hp : pc + 3 = pc2) (h1 : a ≤ b → WP k tgt lv st fr lo σ Q) (h2 : b < a → WP k pc2 lv st fr lo σ Q) : WP k pc lv (iV b :: iV a :: st) fr lo σ Q := wp_ii0 hF ha hb hp (fun h => h1 h) (fun h => h2 (by have h : ¬ (a ≤ b) := h; omega))
theorem wp_tswd {dflt lw hi v : Int} {offs : Array Int} (hF : j_F k pc = some (.tableswitch dflt lw hi offs, len, l1, l2, val, ty)) (hv : m_rg v) (h : v < lw ∨ hi < v) (ht : (pc : Int) + dflt = Int.ofNat tgt) (h2 : WP k tgt lv st fr lo σ Q) : WP k pc lv (iV v :: st) fr lo σ Q := wp_eq (fun _ => jr_ts hF (by rw [m_to hv]; exact h) ht) h2
theorem wp_tswl {dflt lw hi v : Int} {offs : Array Int} (hF : j_F k pc = some (.tableswitch dflt lw hi offs, len, l1, l2, val, ty)) (ht : j_tsw pc dflt lw hi offs (Int32.ofInt v).toInt = some tgt) (h2 : WP k tgt lv st fr lo σ Q) : WP k pc lv (iV v :: st) fr lo σ Q :=
  wp_s hF rfl (by show (match j_tsw pc dflt lw hi offs (Int32.ofInt v).toInt with | some t => some (t, lv, st, HP σ, 0, 0) | none => none) = _; rw [ht]) h2
theorem wp_tswx {dflt lw hi v x : Int} {offs : Array Int} (hF : j_F k pc = some (.tableswitch dflt lw hi offs, len, l1, l2, val, ty)) (hh : v = x) (ht : j_tsw pc dflt lw hi offs (Int32.ofInt x).toInt = some tgt) (h2 : WP k tgt lv st fr lo σ Q) : WP k pc lv (iV v :: st) fr lo σ Q := by
  subst hh
  exact wp_tswl hF ht h2
theorem wp_anyL {x y : Int64} {w : Int32} {e : jE} (hF : j_F k pc = some e) (hi : j_smp e.1 = true) (hs : jstep j_df (j_mx k) pc e lv (.long y :: .long x :: st) (HP σ) = some (pc2, lv, .int w :: st, HP σ, 0, 0)) (h : ∀ z : Int, (-2147483648 ≤ z ∧ z ≤ 2147483647) → WP k pc2 lv (iV z :: st) fr lo σ Q) : WP k pc lv (.long y :: .long x :: st) fr lo σ Q := by
  obtain ⟨z, hz, e⟩ := m_of w
  subst e
  exact wp_s hF hi hs (h z hz)
theorem wp_andl {a b : Int} (hF : j_F k pc = some (.iand, len, l1, l2, val, ty)) (hb : (decide (0 ≤ b) && decide (b ≤ 2147483647)) = true) (hp : pc + 1 = pc2) (h : ∀ z : Int, (0 ≤ z ∧ z ≤ b) → WP k pc2 lv (iV z :: st) fr lo σ Q) : WP k pc lv (iV b :: iV a :: st) fr lo σ Q := by
  subst hp
  rw [Bool.and_eq_true, decide_eq_true_eq, decide_eq_true_eq] at hb
  obtain ⟨z, hz, e⟩ := m_of (Int32.ofInt a &&& Int32.ofInt b)
  refine wp_s hF rfl (st2 := iV z :: st) (by show j_go pc 1 lv (HP σ) (some (.int (Int32.ofInt a &&& Int32.ofInt b) :: st)) = _; rw [e]; rfl) (h z ?_)
  have hr : m_rg b := ⟨by omega, hb.2⟩
  have e2 : z = (Int32.ofInt a &&& Int32.ofInt b).toInt := by rw [e, m_to hz]
  exact m_andr hr hb.1 e2
theorem wp_div {a b : Int} (hF : j_F k pc = some (.idiv, len, l1, l2, val, ty)) (ha : m_rg a) (h0 : 0 ≤ a) (hb : m_rg b) (h1 : 0 < b) (hp : pc + 1 = pc2) (h : WP k pc2 lv (iV (a / b) :: st) fr lo σ Q) : WP k pc lv (iV b :: iV a :: st) fr lo σ Q := by
  subst hp
  refine wp_s hF rfl ?_ h
  show j_go pc 1 lv (HP σ) (if Int32.ofInt b = 0 then none else some (.int (Int32.ofInt a / Int32.ofInt b) :: st)) = _
  rw [if_neg (m_nz hb (by omega)), m_div ha h0 hb h1]
  rfl
theorem wp_rem {a b : Int} (hF : j_F k pc = some (.irem, len, l1, l2, val, ty)) (ha : m_rg a) (h0 : 0 ≤ a) (hb : m_rg b) (h1 : 0 < b) (hp : pc + 1 = pc2) (h : WP k pc2 lv (iV (a % b) :: st) fr lo σ Q) : WP k pc lv (iV b :: iV a :: st) fr lo σ Q := by
  subst hp
  refine wp_s hF rfl ?_ h
  show j_go pc 1 lv (HP σ) (if Int32.ofInt b = 0 then none else some (.int (Int32.ofInt a - Int32.ofInt a / Int32.ofInt b * Int32.ofInt b) :: st)) = _
  rw [if_neg (m_nz hb (by omega)), m_div ha h0 hb h1, m_mul, m_sub, show a - a / b * b = a % b by rw [Int.emod_def, Int.mul_comm]]
  rfl
theorem wp_divp {a b : Int} (hF : j_F k pc = some (.idiv, len, l1, l2, val, ty)) (ha : m_rg a) (h0 : 0 ≤ a) (hb : m_rg b) (h1 : 0 < b) (hp : pc + 1 = pc2) (h : ∀ z, (0 ≤ z ∧ z ≤ a) → WP k pc2 lv (iV z :: st) fr lo σ Q) : WP k pc lv (iV b :: iV a :: st) fr lo σ Q :=
  wp_div hF ha h0 hb h1 hp (h _ ⟨Int.ediv_nonneg h0 (by omega), Int.ediv_le_self b h0⟩)
theorem wp_remp {a b : Int} (hF : j_F k pc = some (.irem, len, l1, l2, val, ty)) (ha : m_rg a) (h0 : 0 ≤ a) (hb : m_rg b) (h1 : 0 < b) (hp : pc + 1 = pc2) (h : ∀ z, (0 ≤ z ∧ z < b) → WP k pc2 lv (iV z :: st) fr lo σ Q) : WP k pc lv (iV b :: iV a :: st) fr lo σ Q :=
  wp_rem hF ha h0 hb h1 hp (h _ ⟨Int.emod_nonneg _ (by omega), Int.emod_lt_of_pos _ h1⟩)
theorem wp_idiva {b : Int} {x : Int32} (hF : j_F k pc = some (.idiv, len, l1, l2, val, ty)) (hb : m_rg b) (h1 : b ≠ 0) (hp : pc + 1 = pc2) (h : ∀ z, (-2147483648 ≤ z ∧ z ≤ 2147483647) → WP k pc2 lv (iV z :: st) fr lo σ Q) : WP k pc lv (iV b :: .int x :: st) fr lo σ Q := by
  subst hp
  obtain ⟨z, hz, e⟩ := m_of (x / Int32.ofInt b)
  refine wp_s hF rfl ?_ (h z hz)
  show j_go pc 1 lv (HP σ) (if Int32.ofInt b = 0 then none else some (.int (x / Int32.ofInt b) :: st)) = _
  rw [if_neg (m_nz hb h1), e]
  rfl
theorem wp_irema {b : Int} {x : Int32} (hF : j_F k pc = some (.irem, len, l1, l2, val, ty)) (hb : m_rg b) (h1 : b ≠ 0) (hp : pc + 1 = pc2) (h : ∀ z, (-2147483648 ≤ z ∧ z ≤ 2147483647) → WP k pc2 lv (iV z :: st) fr lo σ Q) : WP k pc lv (iV b :: .int x :: st) fr lo σ Q := by
  subst hp
  obtain ⟨z, hz, e⟩ := m_of (x - x / Int32.ofInt b * Int32.ofInt b)
  refine wp_s hF rfl ?_ (h z hz)
  show j_go pc 1 lv (HP σ) (if Int32.ofInt b = 0 then none else some (.int (x - x / Int32.ofInt b * Int32.ofInt b) :: st)) = _
  rw [if_neg (m_nz hb h1), e]
  rfl
theorem wp_ldiv {x y : Int64} (hF : j_F k pc = some (.ldiv, len, l1, l2, val, ty)) (hy : y ≠ 0) (hp : pc + 1 = pc2) (h : ∀ L : Int64, WP k pc2 lv (.long L :: st) fr lo σ Q) : WP k pc lv (.long y :: .long x :: st) fr lo σ Q := by
  subst hp
  refine wp_s hF rfl ?_ (h (x / y))
  show j_go pc 1 lv (HP σ) (if y = 0 then none else some (.long (x / y) :: st)) = _
  rw [if_neg hy]
  rfl
theorem wp_lrem {x y : Int64} (hF : j_F k pc = some (.lrem, len, l1, l2, val, ty)) (hy : y ≠ 0) (hp : pc + 1 = pc2) (h : ∀ L : Int64, WP k pc2 lv (.long L :: st) fr lo σ Q) : WP k pc lv (.long y :: .long x :: st) fr lo σ Q := by
  subst hp
  refine wp_s hF rfl ?_ (h (x - x / y * y))
  show j_go pc 1 lv (HP σ) (if y = 0 then none else some (.long (x - x / y * y) :: st)) = _
  rw [if_neg hy]
  rfl
theorem wp_i2l {a : Int} (hF : j_F k pc = some (.i2l, len, l1, l2, val, ty)) (hp : pc + 1 = pc2) (h : WP k pc2 lv (.long (Int32.toInt64 (Int32.ofInt a)) :: st) fr lo σ Q) : WP k pc lv (iV a :: st) fr lo σ Q := by
  subst hp
  exact wp_s hF rfl rfl h
theorem wp_i2ln {a : Int} (hF : j_F k pc = some (.i2l, len, l1, l2, val, ty)) (ha : m_rg a) (hp : pc + 1 = pc2) (h : ∀ L : Int64, (a ≠ 0 → L ≠ 0) → WP k pc2 lv (.long L :: st) fr lo σ Q) : WP k pc lv (iV a :: st) fr lo σ Q :=
  wp_i2l hF hp (h _ (fun hn e => hn (by
    have := congrArg Int64.toInt e
    rw [Int32.toInt_toInt64, m_to ha] at this
    exact this)))
theorem wp_next {z : Int} (hF : j_F k pc = some (.iaload, len, l1, l2, val, ty)) (hz0 : 0 ≤ z) (hz1 : z < 25) (hp : pc + 1 = pc2) (h : ∀ y : Int, (-1 ≤ y ∧ y ≤ 4) → WP k pc2 lv (iV y :: st) fr lo σ Q) : WP k pc lv (iV z :: .ref 1 :: st) fr lo σ Q := by
  subst hp
  obtain ⟨g1, g2, g3⟩ := m_ix (n := 25) hz0 hz1 (by decide)
  obtain ⟨y, e, hy⟩ := m_nxt z.toNat g3
  refine wp_eq (fun _ => jr_ldi hF (?_ : j_el (HP σ) 1 [0] (Int32.ofInt z) = some (iV y))) (h y hy)
  unfold j_el j_at
  rw [show j_nth (HP σ) 1 = some (true, 0, j_ints j_next) from rfl]
  show (if Int32.ofInt z < 0 then none else j_nth (j_ints j_next) (Int32.ofInt z).toNatClampNeg) = _
  rw [if_neg g1, g2, e]
theorem wp_loop {α : Type} (lvf : α → jL) (Iv : α → jM → Prop) (μ : α → jM → Nat) (a0 : α) (σ0 : jM) (h0 : Iv a0 σ0) (step : ∀ a τ, Iv a τ → (∀ a' τ', Iv a' τ' → μ a' τ' < μ a τ → WP k pc (lvf a') [] fr lo τ' Q) → WP k pc (lvf a) [] fr lo τ Q) : WP k pc (lvf a0) [] fr lo σ0 Q := by
  have key : ∀ (n : Nat) (a : α) (τ : jM), μ a τ < n → Iv a τ → WP k pc (lvf a) [] fr lo τ Q := by
    intro n
    induction n with
    | zero => intro a τ h; exact absurd h (Nat.not_lt_zero _)
    | succ n ih => intro a τ h hi; exact step a τ hi (fun a' τ' hi' hlt => ih a' τ' (by omega) hi')
  exact key _ a0 σ0 (Nat.lt_succ_self _) h0
theorem wp_less (ks : List Nat) (hs : j_srt lv = true) (he : lv.filter (fun q => ks.elem q.1) = lv2) (h : WP k pc lv2 st fr lo σ Q) : WP k pc lv st fr lo σ Q := by
  subst he
  obtain ⟨n, v, τ, e, hQ⟩ := h
  exact ⟨n, v, τ, jrun_less n k pc _ lv st (HP σ) 0 0 fr lo _ ⟨j_srt_fn hs, fun q hq => (List.mem_filter.mp hq).1⟩ e, hQ⟩

theorem wp_join {α : Type} (pj : Nat) (lvf : α → jL) (Iv : α → jM → Prop) (hJ : ∀ a τ, Iv a τ → WP k pj (lvf a) [] fr lo τ Q) (h : (∀ a τ, Iv a τ → WP k pj (lvf a) [] fr lo τ Q) → WP k pc lv st fr lo σ Q) : WP k pc lv st fr lo σ Q := h hJ
theorem wp_lcmp2 {x y : Int64} {a b : Int} (hF : j_F k pc = some (.lcmp, len, l1, l2, val, ty)) (hx : x.toInt = a) (hy : y.toInt = b) (hp : pc + 1 = pc2) (h : ∀ z : Int, ((-1 ≤ z ∧ z ≤ 1) ∧ (z < 0 ↔ a < b) ∧ (0 < z ↔ b < a)) → WP k pc2 lv (iV z :: st) fr lo σ Q) : WP k pc lv (.long y :: .long x :: st) fr lo σ Q := by
  subst hp
  have key : ∃ z : Int, lg_cmp x y = Int32.ofInt z ∧ ((-1 ≤ z ∧ z ≤ 1) ∧ (z < 0 ↔ a < b) ∧ (0 < z ↔ b < a)) := by
    obtain ⟨c1, c2, c3⟩ := jkl_cmp (x := x) (y := y)
    rw [hx, hy] at c1 c2 c3
    rcases Int.lt_trichotomy a b with h1 | h1 | h1
    · refine ⟨-1, ?_, by omega, by omega, by omega⟩
      have := c1.mpr h1
      unfold lg_cmp at this ⊢
      split
      · rename_i h2; rw [if_pos h2] at this; exact absurd this (by decide)
      · rename_i h2
        rw [if_neg h2] at this
        split
        · rename_i h3; rw [if_pos h3] at this; exact absurd this (by decide)
        · rfl
    · exact ⟨0, c2.mpr h1, by omega, by omega, by omega⟩
    · refine ⟨1, ?_, by omega, by omega, by omega⟩
      have := c3.mpr h1
      unfold lg_cmp at this ⊢
      split
      · rfl
      · rename_i h2
        rw [if_neg h2] at this
        split
        · rename_i h3; rw [if_pos h3] at this; exact absurd this (by decide)
        · rename_i h3; rw [if_neg h3] at this; exact absurd this (by decide)
  obtain ⟨z, e, hz⟩ := key
  exact wp_s hF rfl (by show j_go pc 1 lv (HP σ) (some (.int (lg_cmp x y) :: st)) = _; rw [e]; rfl) (h z hz)
theorem wp_caldC {a n : Nat} {z : Int} (hF : j_F k pc = some (.caload, len, l1, l2, val, ty)) (h0 : KD a ≠ 0) (hq : m_qa (jSK (KD a)) 2 n = true) (hn : n ≤ 6) (hz0 : 0 ≤ z) (hz1 : z < (n : Int)) (hp : pc + 1 = pc2) (hg : GI σ) (h : ∀ e : Int, (-2147483648 ≤ e ∧ e ≤ 2147483647) → WP k pc2 lv (iV e :: st) fr lo σ Q) : WP k pc lv (iV z :: .ref a :: st) fr lo σ Q := by
  obtain ⟨e, he, e2⟩ := m_of (Int32.ofInt (σ.1 a z.toNat))
  subst hp
  obtain ⟨g1, g2, g3⟩ := m_ix hz0 hz1 (by omega)
  exact wp_eq (fun _ => jr_ldc hF (m_el (v := iV e) rfl rfl h0 hq rfl g1 (by rw [g2]; exact g3) (by rw [g2]; show Value.int (Int32.ofInt (σ.1 a z.toNat)) = _; rw [e2]))) (h e he)
end WPS
