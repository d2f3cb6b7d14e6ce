/-! THE TWO OBJECTS' WORLD AS NUMBERS: ints, longs and the few references that change, by cell and place. -/
abbrev jM : Type := (Nat → Nat → Int) × (Nat → Nat → Int64) × (Nat → Nat → Nat)
abbrev jZ : Type := Bool × Nat × List Nat × Nat
def m_i (σ : jM) (a j : Nat) (v : Int) : jM := (fun b k => cond (Nat.beq b a && Nat.beq k j) v (σ.1 b k), σ.2.1, σ.2.2)
def m_l (σ : jM) (a j : Nat) (v : Int64) : jM := (σ.1, fun b k => cond (Nat.beq b a && Nat.beq k j) v (σ.2.1 b k), σ.2.2)
def m_r (σ : jM) (a j : Nat) (v : Nat) : jM := (σ.1, σ.2.1, fun b k => cond (Nat.beq b a && Nat.beq k j) v (σ.2.2 b k))
/-- a field by its code: 0 an int, 1 a long, 2 a reference that changes (0: null), 3 and on: the cell so far behind, 100 and on: a cell -/
def m_fv (σ : jM) (a c j : Nat) : Value := cond (Nat.beq c 0) (.int (Int32.ofInt (σ.1 a j))) (cond (Nat.beq c 1) (.long (σ.2.1 a j)) (cond (Nat.beq c 2) (cond (Nat.beq (σ.2.2 a j) 0) .null (.ref (σ.2.2 a j))) (cond (Nat.ble 100 c) (.ref (c - 100)) (.ref (a + (c - 3))))))
def m_fs (σ : jM) (a : Nat) : List Nat → Nat → List Value
  | [], _ => []
  | c :: r, j => m_fv σ a c j :: m_fs σ a r (j + 1)
/-- a cell by its kind: an object (class, codes of its fields), an array (kind, codes, length) -/
def m_cell (σ : jM) (a : Nat) (s : jZ) : jc := cond s.1 (true, s.2.1, cond (Nat.beq s.2.1 4) (m_fs σ a s.2.2.1 0) (cond (Nat.beq s.2.1 1) ((List.range s.2.2.2).map fun j => .long (σ.2.1 a j)) ((List.range s.2.2.2).map fun j => .int (Int32.ofInt (σ.1 a j))))) (false, s.2.1, m_fs σ a s.2.2.1 0)
def m_cells (SK : Nat → jZ) (σ : jM) : List Nat → Nat → List jc
  | [], _ => []
  | k :: r, a => m_cell σ a (SK k) :: m_cells SK σ r (a + 1)
theorem m_fs_len (σ : jM) (a : Nat) : ∀ (l : List Nat) (j : Nat), (m_fs σ a l j).length = l.length := by
  intro l
  induction l with
  | nil => intro j; rfl
  | cons c r ih => intro j; show (m_fs σ a r (j + 1)).length + 1 = r.length + 1; rw [ih]
theorem m_fs_at (σ : jM) (a : Nat) : ∀ (l : List Nat) (j f : Nat), (m_fs σ a l j)[f]? = (l[f]?).map fun c => m_fv σ a c (j + f) := by
  intro l
  induction l with
  | nil => intro j f; rfl
  | cons c r ih =>
    intro j f
    cases f with
    | zero => rfl
    | succ f =>
      show (m_fs σ a r (j + 1))[f]? = (r[f]?).map fun c => m_fv σ a c (j + (f + 1))
      rw [ih, show j + 1 + f = j + (f + 1) by omega]
theorem m_cells_at (SK : Nat → jZ) (σ : jM) : ∀ (l : List Nat) (a i : Nat), (m_cells SK σ l a)[i]? = (l[i]?).map fun k => m_cell σ (a + i) (SK k) := by
  intro l
  induction l with
  | nil => intro a i; rfl
  | cons c r ih =>
    intro a i
    cases i with
    | zero => rfl
    | succ i =>
      show (m_cells SK σ r (a + 1))[i]? = (r[i]?).map fun k => m_cell σ (a + (i + 1)) (SK k)
      rw [ih, show a + 1 + i = a + (i + 1) by omega]
theorem m_fv_congr {σ τ : jM} {a c j : Nat} (h1 : σ.1 a j = τ.1 a j) (h2 : σ.2.1 a j = τ.2.1 a j) (h3 : σ.2.2 a j = τ.2.2 a j) : m_fv σ a c j = m_fv τ a c j := by
  unfold m_fv
  rw [h1, h2, h3]
theorem m_fs_congr {σ τ : jM} {a : Nat} (h1 : ∀ j, σ.1 a j = τ.1 a j) (h2 : ∀ j, σ.2.1 a j = τ.2.1 a j) (h3 : ∀ j, σ.2.2 a j = τ.2.2 a j) : ∀ (l : List Nat) (j : Nat), m_fs σ a l j = m_fs τ a l j := by
  intro l
  induction l with
  | nil => intro j; rfl
  | cons c r ih => intro j; show m_fv σ a c j :: m_fs σ a r (j + 1) = _; rw [ih, m_fv_congr (h1 j) (h2 j) (h3 j)]; rfl
theorem m_cell_congr {σ τ : jM} {a : Nat} (h1 : ∀ j, σ.1 a j = τ.1 a j) (h2 : ∀ j, σ.2.1 a j = τ.2.1 a j) (h3 : ∀ j, σ.2.2 a j = τ.2.2 a j) (s : jZ) : m_cell σ a s = m_cell τ a s := by
  unfold m_cell
  rw [m_fs_congr h1 h2 h3, funext (f := fun j => Value.long (σ.2.1 a j)) (g := fun j => Value.long (τ.2.1 a j)) (fun j => by rw [h2]), funext (f := fun j => Value.int (Int32.ofInt (σ.1 a j))) (g := fun j => Value.int (Int32.ofInt (τ.1 a j))) (fun j => by rw [h1])]
theorem m_cond_ne {a b j k : Nat} {α : Type} {v w : α} (h : ¬ (b = a ∧ k = j)) : cond (Nat.beq b a && Nat.beq k j) v w = w := by
  cases hb : Nat.beq b a && Nat.beq k j with
  | false => rfl
  | true =>
    rw [Bool.and_eq_true] at hb
    exact absurd ⟨Nat.eq_of_beq_eq_true hb.1, Nat.eq_of_beq_eq_true hb.2⟩ h
theorem m_cond_eq {a j : Nat} {α : Type} {v w : α} : cond (Nat.beq a a && Nat.beq j j) v w = v := by
  rw [Nat.beq_refl, Nat.beq_refl]
  rfl
theorem m_i_ne {σ : jM} {a j b k : Nat} {v : Int} (h : b ≠ a) : (m_i σ a j v).1 b k = σ.1 b k := m_cond_ne (fun z => h z.1)
theorem m_i_nj {σ : jM} {a j b k : Nat} {v : Int} (h : k ≠ j) : (m_i σ a j v).1 b k = σ.1 b k := m_cond_ne (fun z => h z.2)
theorem m_i_eq {σ : jM} {a j : Nat} {v : Int} : (m_i σ a j v).1 a j = v := m_cond_eq
theorem m_l_ne {σ : jM} {a j b k : Nat} {v : Int64} (h : b ≠ a) : (m_l σ a j v).2.1 b k = σ.2.1 b k := m_cond_ne (fun z => h z.1)
theorem m_l_nj {σ : jM} {a j b k : Nat} {v : Int64} (h : k ≠ j) : (m_l σ a j v).2.1 b k = σ.2.1 b k := m_cond_ne (fun z => h z.2)
theorem m_l_eq {σ : jM} {a j : Nat} {v : Int64} : (m_l σ a j v).2.1 a j = v := m_cond_eq
theorem m_r_ne {σ : jM} {a j b k : Nat} {v : Nat} (h : b ≠ a) : (m_r σ a j v).2.2 b k = σ.2.2 b k := m_cond_ne (fun z => h z.1)
theorem m_r_nj {σ : jM} {a j b k : Nat} {v : Nat} (h : k ≠ j) : (m_r σ a j v).2.2 b k = σ.2.2 b k := m_cond_ne (fun z => h z.2)
theorem m_r_eq {σ : jM} {a j : Nat} {v : Nat} : (m_r σ a j v).2.2 a j = v := m_cond_eq
/-- a list of fields with one of them written -/
theorem m_fs_set {σ τ : jM} {a : Nat} {l : List Nat} {f c : Nat} (hc : l[f]? = some c) (h : ∀ j, j ≠ f → σ.1 a j = τ.1 a j ∧ σ.2.1 a j = τ.2.1 a j ∧ σ.2.2 a j = τ.2.2 a j) {v : Value} (hv : m_fv τ a c f = v) : (m_fs σ a l 0).set f v = m_fs τ a l 0 := by
  apply List.ext_getElem?
  intro j
  by_cases e : j = f
  · subst e
    have hlt : j < (m_fs σ a l 0).length := by rw [m_fs_len]; exact (List.getElem?_eq_some_iff.mp hc).1
    rw [List.getElem?_set_self hlt, m_fs_at, hc, Option.map_some, Nat.zero_add, hv]
  · rw [List.getElem?_set_ne (Ne.symm e), m_fs_at, m_fs_at]
    obtain ⟨h1, h2, h3⟩ := h j e
    cases l[j]? with
    | none => rfl
    | some d => rw [Option.map_some, Option.map_some, Nat.zero_add, m_fv_congr h1 h2 h3]
theorem m_map_set {α : Type} {f g : Nat → α} {n i : Nat} (h : ∀ j, j ≠ i → f j = g j) : ((List.range n).map f).set i (g i) = (List.range n).map g := by
  apply List.ext_getElem?
  intro j
  by_cases e : j = i
  · subst e
    by_cases hj : j < n
    · rw [List.getElem?_set_self (by simpa using hj), List.getElem?_map, List.getElem?_range hj, Option.map_some]
    · rw [List.getElem?_eq_none (by simp; omega), List.getElem?_eq_none (by simp; omega)]
  · by_cases hj : j < n
    · rw [List.getElem?_set_ne (Ne.symm e), List.getElem?_map, List.getElem?_map, List.getElem?_range hj, Option.map_some, Option.map_some, h j e]
    · rw [List.getElem?_eq_none (by simp; omega), List.getElem?_eq_none (by simp; omega)]
section MH
variable {SK : Nat → jZ} {KD : List Nat} {old : List jc} {σ τ : jM}
/-- the world as a list of cells: nine old ones, then the objects' -/
def m_hp (SK : Nat → jZ) (KD : List Nat) (old : List jc) (σ : jM) : List jc := old ++ m_cells SK σ KD 9
def m_kd (KD : List Nat) (a : Nat) : Nat := cond (Nat.ble 9 a) ((KD[a - 9]?).getD 0) 0
theorem m_kd_some {a K : Nat} (h : m_kd KD a = K) (h0 : K ≠ 0) : 9 ≤ a ∧ KD[a - 9]? = some K := by
  unfold m_kd at h
  cases hb : Nat.ble 9 a with
  | false => rw [hb] at h; exact absurd h.symm h0
  | true =>
    rw [hb] at h
    refine ⟨Nat.le_of_ble_eq_true hb, ?_⟩
    cases hq : KD[a - 9]? with
    | none => rw [hq] at h; exact absurd h.symm h0
    | some z => rw [hq] at h; exact congrArg some h
theorem m_at (hold : old.length = 9) {a K : Nat} (h : m_kd KD a = K) (h0 : K ≠ 0) : j_nth (m_hp SK KD old σ) a = some (m_cell σ a (SK K)) := by
  obtain ⟨h9, hq⟩ := m_kd_some h h0
  unfold m_hp
  rw [j_nth_eq, List.getElem?_append_right (by omega), hold, m_cells_at, hq, Option.map_some, show 9 + (a - 9) = a by omega]
/-- one cell otherwise -/
theorem m_hp_set (hold : old.length = 9) {a K : Nat} (h : m_kd KD a = K) (h0 : K ≠ 0) (hne : ∀ b j, b ≠ a → σ.1 b j = τ.1 b j ∧ σ.2.1 b j = τ.2.1 b j ∧ σ.2.2 b j = τ.2.2 b j) {c : jc} (hc : c = m_cell τ a (SK K)) : j_set c (m_hp SK KD old σ) a = m_hp SK KD old τ := by
  obtain ⟨h9, hq⟩ := m_kd_some h h0
  have hlt := (List.getElem?_eq_some_iff.mp hq).1
  subst hc
  rw [j_set_eq]
  unfold m_hp
  rw [List.set_append_right a _ (by omega), hold]
  congr 1
  apply List.ext_getElem?
  intro i
  by_cases e : i = a - 9
  · subst e
    rw [List.getElem?_set_self (by
      have : (m_cells SK σ KD 9)[a - 9]? ≠ none := by rw [m_cells_at, hq]; exact fun z => by cases z
      exact Nat.lt_of_not_le (fun z => this (List.getElem?_eq_none z))), m_cells_at, hq, Option.map_some, show 9 + (a - 9) = a by omega]
  · rw [List.getElem?_set_ne (Ne.symm e), m_cells_at, m_cells_at]
    cases KD[i]? with
    | none => rfl
    | some z =>
      rw [Option.map_some, Option.map_some, m_cell_congr (fun j => (hne _ j (by omega)).1) (fun j => (hne _ j (by omega)).2.1) (fun j => (hne _ j (by omega)).2.2)]
/-- kinds, asked -/
def m_qf (s : jZ) (ci f c : Nat) : Bool := !s.1 && Nat.beq s.2.1 ci && (match s.2.2.1[f]? with | some d => Nat.beq d c | none => false)
def m_qa (s : jZ) (t n : Nat) : Bool := s.1 && Nat.beq s.2.1 t && !(Nat.beq t 4) && Nat.beq s.2.2.2 n
theorem m_qf_cell {s : jZ} {ci f c a : Nat} (h : m_qf s ci f c = true) : m_cell σ a s = (false, ci, m_fs σ a s.2.2.1 0) ∧ s.2.2.1[f]? = some c := by
  unfold m_qf at h
  simp only [Bool.and_eq_true, Bool.not_eq_true'] at h
  obtain ⟨⟨h1, h2⟩, h3⟩ := h
  refine ⟨by unfold m_cell; rw [h1, Nat.eq_of_beq_eq_true h2]; rfl, ?_⟩
  split at h3
  · rename_i d hd
    rw [hd, Nat.eq_of_beq_eq_true h3]
  · cases h3
theorem m_gf (hold : old.length = 9) {a K ci f c : Nat} (hk : m_kd KD a = K) (h0 : K ≠ 0) (hq : m_qf (SK K) ci f c = true) {v : Value} (hv : m_fv σ a c f = v) : j_gf (m_hp SK KD old σ) a ci f = some v := by
  obtain ⟨h1, h2⟩ := m_qf_cell (σ := σ) (a := a) hq
  unfold j_gf
  rw [m_at hold hk h0, h1]
  show cond (Nat.beq ci ci && (Nat.ble 9 a || Nat.beq ci 99)) (j_nth (m_fs σ a (SK K).2.2.1 0) f) none = some v
  rw [Nat.beq_refl, Nat.ble_eq_true_of_le (m_kd_some hk h0).1, j_nth_eq, m_fs_at, h2, Option.map_some, Nat.zero_add, hv]
  rfl
theorem m_ob (hold : old.length = 9) {a K ci f c : Nat} (hk : m_kd KD a = K) (h0 : K ≠ 0) (hq : m_qf (SK K) ci f c = true) : j_ob (m_hp SK KD old σ) a ci = true := by
  obtain ⟨h1, h2⟩ := m_qf_cell (σ := σ) (a := a) hq
  unfold j_ob
  rw [m_at hold hk h0, h1]
  show (Nat.beq ci ci && Nat.ble 9 a) = true
  rw [Nat.beq_refl, Nat.ble_eq_true_of_le (m_kd_some hk h0).1]
  rfl
theorem m_stf (hold : old.length = 9) {a K ci f c : Nat} (hk : m_kd KD a = K) (h0 : K ≠ 0) (hq : m_qf (SK K) ci f c = true) (hne : ∀ b j, ¬ (b = a ∧ j = f) → σ.1 b j = τ.1 b j ∧ σ.2.1 b j = τ.2.1 b j ∧ σ.2.2 b j = τ.2.2 b j) {v : Value} (hv : m_fv τ a c f = v) : j_stf (m_hp SK KD old σ) a f v = m_hp SK KD old τ := by
  obtain ⟨h1, h2⟩ := m_qf_cell (σ := σ) (a := a) hq
  obtain ⟨h3, -⟩ := m_qf_cell (σ := τ) (a := a) hq
  unfold j_stf
  rw [m_at hold hk h0, h1]
  refine m_hp_set hold hk h0 (fun b j hb => hne b j (fun z => hb z.1)) ?_
  rw [h3, j_set_eq, m_fs_set h2 (fun j hj => hne a j (fun z => hj z.2)) hv]
theorem m_qa_cell {s : jZ} {t n a : Nat} (h : m_qa s t n = true) : m_cell σ a s = (true, t, cond (Nat.beq t 1) ((List.range n).map fun j => .long (σ.2.1 a j)) ((List.range n).map fun j => .int (Int32.ofInt (σ.1 a j)))) := by
  unfold m_qa at h
  simp only [Bool.and_eq_true, Bool.not_eq_true'] at h
  obtain ⟨⟨⟨h1, h2⟩, h3⟩, h4⟩ := h
  have e2 := Nat.eq_of_beq_eq_true h2
  have e4 := Nat.eq_of_beq_eq_true h4
  unfold m_cell
  rw [h1, e2, h3, e4]
  rfl
theorem m_al (hold : old.length = 9) {a K t n : Nat} (hk : m_kd KD a = K) (h0 : K ≠ 0) (hq : m_qa (SK K) t n = true) : j_al (m_hp SK KD old σ) a = some (Int32.ofNat n) := by
  unfold j_al
  rw [m_at hold hk h0, m_qa_cell hq]
  cases Nat.beq t 1 <;> simp
theorem m_el (hold : old.length = 9) {a K t n : Nat} {ts : List Nat} {x : Int32} {v : Value} (hk : m_kd KD a = K) (h0 : K ≠ 0) (hq : m_qa (SK K) t n = true) (hts : ts.any (fun z => Nat.beq z t) = true) (hx : ¬ x < 0) (hn : x.toNatClampNeg < n) (hv : cond (Nat.beq t 1) (.long (σ.2.1 a x.toNatClampNeg)) (.int (Int32.ofInt (σ.1 a x.toNatClampNeg))) = v) : j_el (m_hp SK KD old σ) a ts x = some v := by
  unfold j_el j_at
  rw [m_at hold hk h0, m_qa_cell hq]
  dsimp only
  rw [hts, cond_true]
  dsimp only
  rw [if_neg hx, j_nth_eq]
  rw [← hv]
  cases Nat.beq t 1 with
  | true => rw [cond_true, cond_true, List.getElem?_map, List.getElem?_range hn]; rfl
  | false => rw [cond_false, cond_false, List.getElem?_map, List.getElem?_range hn]; rfl
theorem m_aok (hold : old.length = 9) {a K t n : Nat} {x : Int32} (hk : m_kd KD a = K) (h0 : K ≠ 0) (hq : m_qa (SK K) t n = true) (hx : ¬ x < 0) (hn : x.toNatClampNeg < n) : j_aok (m_hp SK KD old σ) a t x = true := by
  unfold j_aok j_at
  rw [m_at hold hk h0, m_qa_cell hq, Nat.ble_eq_true_of_le (m_kd_some hk h0).1]
  have hany : [t].any (fun z => Nat.beq z t) = true := by simp
  dsimp only
  rw [hany, cond_true, cond_true]
  dsimp only
  rw [if_neg hx]
  refine Nat.ble_eq_true_of_le ?_
  cases Nat.beq t 1 with
  | true => simp only [cond_true, List.length_map, List.length_range]; omega
  | false => simp only [cond_false, List.length_map, List.length_range]; omega
theorem m_sta (hold : old.length = 9) {a K t n i : Nat} (hk : m_kd KD a = K) (h0 : K ≠ 0) (hq : m_qa (SK K) t n = true) (hne : ∀ b j, ¬ (b = a ∧ j = i) → σ.1 b j = τ.1 b j ∧ σ.2.1 b j = τ.2.1 b j ∧ σ.2.2 b j = τ.2.2 b j) {v : Value} (hv : cond (Nat.beq t 1) (.long (τ.2.1 a i)) (.int (Int32.ofInt (τ.1 a i))) = v) : j_stf (m_hp SK KD old σ) a i v = m_hp SK KD old τ := by
  unfold j_stf
  rw [m_at hold hk h0, m_qa_cell hq]
  refine m_hp_set hold hk h0 (fun b j hb => hne b j (fun z => hb z.1)) ?_
  rw [m_qa_cell hq, j_set_eq, ← hv]
  cases Nat.beq t 1 with
  | true => rw [cond_true, cond_true, cond_true, m_map_set (f := fun j => Value.long (σ.2.1 a j)) (g := fun j => Value.long (τ.2.1 a j)) (fun j hj => by rw [(hne a j (fun z => hj z.2)).2.1])]
  | false => rw [cond_false, cond_false, cond_false, m_map_set (f := fun j => Value.int (Int32.ofInt (σ.1 a j))) (g := fun j => Value.int (Int32.ofInt (τ.1 a j))) (fun j hj => by rw [(hne a j (fun z => hj z.2)).1])]
end MH
theorem m_ne_i {σ : jM} {a f : Nat} {v : Int} : ∀ b j, ¬ (b = a ∧ j = f) → σ.1 b j = (m_i σ a f v).1 b j ∧ σ.2.1 b j = (m_i σ a f v).2.1 b j ∧ σ.2.2 b j = (m_i σ a f v).2.2 b j := fun _ _ h => ⟨(m_cond_ne h).symm, rfl, rfl⟩
theorem m_ne_l {σ : jM} {a f : Nat} {v : Int64} : ∀ b j, ¬ (b = a ∧ j = f) → σ.1 b j = (m_l σ a f v).1 b j ∧ σ.2.1 b j = (m_l σ a f v).2.1 b j ∧ σ.2.2 b j = (m_l σ a f v).2.2 b j := fun _ _ h => ⟨rfl, (m_cond_ne h).symm, rfl⟩
theorem m_ne_r {σ : jM} {a f v : Nat} : ∀ b j, ¬ (b = a ∧ j = f) → σ.1 b j = (m_r σ a f v).1 b j ∧ σ.2.1 b j = (m_r σ a f v).2.1 b j ∧ σ.2.2 b j = (m_r σ a f v).2.2 b j := fun _ _ h => ⟨rfl, rfl, (m_cond_ne h).symm⟩
/-! INTS AS NUMBERS. -/
def m_rg (z : Int) : Prop := -2147483648 ≤ z ∧ z ≤ 2147483647
theorem m_to {z : Int} (h : m_rg z) : (Int32.ofInt z).toInt = z := Int32.toInt_ofInt_of_le (by have := h.1; omega) (by have := h.2; omega)
theorem m_of (x : Int32) : ∃ z : Int, m_rg z ∧ x = Int32.ofInt z := ⟨x.toInt, ⟨Int32.le_toInt x, by have := Int32.toInt_lt x; omega⟩, (Int32.ofInt_toInt x).symm⟩
theorem m_add (a b : Int) : Int32.ofInt a + Int32.ofInt b = Int32.ofInt (a + b) := Int32.toBitVec_inj.mp (by simp [BitVec.ofInt_add])
theorem m_neg (a : Int) : -Int32.ofInt a = Int32.ofInt (-a) := Int32.neg_ofInt
theorem m_sub (a b : Int) : Int32.ofInt a - Int32.ofInt b = Int32.ofInt (a - b) := by
  rw [Int32.sub_eq_add_neg, m_neg, m_add, Int.sub_eq_add_neg]
theorem m_mul (a b : Int) : Int32.ofInt a * Int32.ofInt b = Int32.ofInt (a * b) := Int32.toBitVec_inj.mp (by simp [BitVec.ofInt_mul])
theorem m_lt {a b : Int} (ha : m_rg a) (hb : m_rg b) : (Int32.ofInt a < Int32.ofInt b) ↔ a < b := by rw [jk_lt, m_to ha, m_to hb]
theorem m_le {a b : Int} (ha : m_rg a) (hb : m_rg b) : (Int32.ofInt a ≤ Int32.ofInt b) ↔ a ≤ b := by rw [jk_le, m_to ha, m_to hb]
theorem m_eq {a b : Int} (ha : m_rg a) (hb : m_rg b) : (Int32.ofInt a = Int32.ofInt b) ↔ a = b := by rw [← Int32.toInt_inj, m_to ha, m_to hb]
theorem m_nat {z : Int} (h : m_rg z) : (Int32.ofInt z).toNatClampNeg = z.toNat := by
  show (Int32.ofInt z).toInt.toNat = z.toNat
  rw [m_to h]
theorem m_ix {z : Int} {n : Nat} (h0 : 0 ≤ z) (h1 : z < (n : Int)) (hn : n ≤ 2147483647) : ¬ Int32.ofInt z < 0 ∧ (Int32.ofInt z).toNatClampNeg = z.toNat ∧ z.toNat < n := by
  have hr : m_rg z := ⟨by omega, by omega⟩
  refine ⟨fun h => ?_, m_nat hr, by omega⟩
  have := (m_lt (b := 0) hr ⟨by decide, by decide⟩).mp h
  omega
