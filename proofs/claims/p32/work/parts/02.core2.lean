/-! THE SMALL MACHINE AGAINST THE LARGE ONE: words for the two worlds side by side. -/
theorem j_nth_eq {α : Type} (l : List α) (i : Nat) : j_nth l i = l[i]? := by
  induction l generalizing i with
  | nil => simp [j_nth]
  | cons a t ih =>
    cases i with
    | zero => rfl
    | succ j => rw [List.getElem?_cons_succ, ← ih j]; rfl
theorem j_set_eq {α : Type} (v : α) (l : List α) (i : Nat) : j_set v l i = l.set i v := by
  induction l generalizing i with
  | nil => simp [j_set]
  | cons a t ih =>
    cases i with
    | zero => rfl
    | succ j => rw [List.set_cons_succ, ← ih j]; rfl
theorem j_get_mem {l : jL} {i : Nat} {v : Value} (h : j_get l i = some v) : (i, v) ∈ l := by
  induction l with
  | nil => simp [j_get] at h
  | cons q t ih =>
    have h' : cond (Nat.beq q.1 i) (some q.2) (j_get t i) = some v := h
    cases hb : Nat.beq q.1 i with
    | true =>
      rw [hb] at h'
      have e1 : q.1 = i := Nat.eq_of_beq_eq_true hb
      have e2 : q.2 = v := Option.some.inj h'
      rw [← e1, ← e2]
      exact List.mem_cons_self
    | false =>
      rw [hb] at h'
      exact List.mem_cons_of_mem _ (ih h')
def j_rv (g : Nat → Value) : Value → Value | .ref k => g k | v => v
def j_sl (g : Nat → Value) (lv : jL) : jL := lv.map (fun q => (q.1, j_rv g q.2))
theorem j_get_ls {g : Nat → Value} {ls : Array Slot} {n i : Nat} {lv : jL} {v : Value} (hl : lv_has ls n (j_sl g lv)) (h : j_get lv i = some v) : ls[i]? = some (.val (j_rv g v)) :=
  hl.2.2 (i, j_rv g v) (List.mem_map.mpr ⟨(i, v), j_get_mem h, rfl⟩)
def j_ty : Nat → FieldType := fun t => match t with
  | 0 => .int
  | 1 => .long
  | 2 => .char
  | 3 => .boolean
  | 4 => .object "HundredWords$Row"
  | _ => .byte
def j_tys (cA : Nat → ClassId) : List (ClassId × FieldType) := [(cA 0, .int), (cA 1, .long), (cA 2, .char), (cA 3, .boolean), (cA 4, .object "HundredWords$Row"), (cA 5, .byte)]
theorem j_tys_at (cA : Nat → ClassId) {t : Nat} (h : t < 6) : (j_tys cA)[t]? = some (cA t, j_ty t) := by
  match t, h with
  | 0, _ => rfl
  | 1, _ => rfl
  | 2, _ => rfl
  | 3, _ => rfl
  | 4, _ => rfl
  | 5, _ => rfl
def j_A (B : Nat) : Nat → Prop := fun q => B ≤ q
def j_G (g : Nat → Value) (ad : Nat → Nat) (B : Nat) : Prop := (∀ k, k ≠ 8 → g k = .ref (ad k)) ∧ (g 8 = .null ∨ ∃ a, g 8 = .ref a) ∧ (∀ k, 9 ≤ k → ad k = B + (k - 9)) ∧ ∀ k, k < 8 → ad k < B
def j_str (g : Nat → Value) (ad : Nat → Nat) (B : Nat) (U : State) (H : Heap) (k : Nat) (fs : List Value) : Prop :=
  k < 8 ∧ (∃ cell : Cell, H[ad k]? = some cell ∧ cell.vm.isStatics = false ∧ U.vm.findClass "java/lang/String" = some cell.cls) ∧
  (∀ v, fs[0]? = some v → va_OF "java/lang/String" "value" "[B" (j_rv g v) (ad k) (j_A B) U H) ∧ (∀ v, fs[1]? = some v → va_OF "java/lang/String" "coder" "B" (j_rv g v) (ad k) (j_A B) U H) ∧ fs.length = 2
def j_in (g : Nat → Value) (ad : Nat → Nat) (B : Nat) (D : va_G) (cA : Nat → ClassId) (cl : List vw_C) (U : State) (H : Heap) (k : Nat) (c : jc) : Prop :=
  if k < 9 then
    (c.1 = true → k < 8 ∧ ∃ cell : Cell, H[ad k]? = some cell ∧ U.isArrayOf cell (j_ty c.2.1) ∧ cell.vm ≠ .unknown ∧ c.2.2.length ≤ cell.slots.size ∧ cell.slots.size.toInt32 = Int32.ofNat c.2.2.length ∧ ∀ (j : Nat) (v : Value), c.2.2[j]? = some v → cell.slots[j]? = some (j_rv g v)) ∧
    (c.1 = false → c.2.1 = 99 → j_str g ad B U H k c.2.2)
  else
    (c.1 = true → c.2.1 < 6 ∧ H[ad k]? = some (arrV (cA c.2.1) c.2.2.length (fun j => j_rv g (c.2.2.getD j .null)))) ∧
    (c.1 = false → ∃ r : vw_C, cl[c.2.1]? = some r ∧ c.2.2.length = r.2.2 ∧ t_OB (ad k) (D.1 c.2.1) r.2.2 (D.2 c.2.1) H (fun j => j_rv g (c.2.2.getD j .null)))
def j_H (g : Nat → Value) (ad : Nat → Nat) (B : Nat) (D : va_G) (cA : Nat → ClassId) (cl : List vw_C) (U : State) (H : Heap) (hp : List jc) : Prop :=
  9 ≤ hp.length ∧ H.size + 9 = B + hp.length ∧ hp[8]? = some (false, 98, []) ∧ ∀ (k : Nat) (c : jc), hp[k]? = some c → j_in g ad B D cA cl U H k c
section JW
variable {g : Nat → Value} {ad : Nat → Nat} {B : Nat} {D : va_G} {cA : Nat → ClassId} {cl : List vw_C} {U V : State} {H H1 : Heap} {hp : List jc}
theorem j_str.kept {k : Nat} {fs : List Value} (h : j_str g ad B U H k fs) (hq : ∀ q : Nat, q < B → H1[q]? = H[q]?) (hb : ad k < B) : j_str g ad B U H1 k fs := by
  obtain ⟨h1, ⟨cell, h2, h3⟩, h4, h5, h6⟩ := h
  have hk : ∀ a : Nat, a < H.size → ¬ j_A B a → H1[a]? = H[a]? := fun a _ ha => hq a (Nat.lt_of_not_le ha)
  exact ⟨h1, ⟨cell, by rw [hq _ hb]; exact h2, h3⟩, fun v hv => (h4 v hv).kept hk, fun v hv => (h5 v hv).kept hk, h6⟩
theorem j_str.moved {k : Nat} {fs : List Value} (hvm : U.vm.Alike V.vm) (h : j_str g ad B U H k fs) : j_str g ad B V H k fs := by
  obtain ⟨h1, ⟨cell, h2, h3, h3'⟩, h4, h5, h6⟩ := h
  exact ⟨h1, ⟨cell, h2, h3, by rw [hvm.findClass]; exact h3'⟩, fun v hv => va_OF.moved hvm (h4 v hv), fun v hv => va_OF.moved hvm (h5 v hv), h6⟩
theorem j_in.kept {k : Nat} {c : jc} (hG : j_G g ad B) (h : j_in g ad B D cA cl U H k c) (hq : ∀ q : Nat, q < B → H1[q]? = H[q]?) (ho : 9 ≤ k → H1[ad k]? = H[ad k]?) : j_in g ad B D cA cl U H1 k c := by
  unfold j_in at h ⊢
  by_cases hk : k < 9
  · rw [if_pos hk] at h ⊢
    refine ⟨fun e => ?_, fun e1 e2 => ?_⟩
    · obtain ⟨h8, cell, h2⟩ := h.1 e
      exact ⟨h8, cell, by rw [hq _ (hG.2.2.2 k h8)]; exact h2.1, h2.2⟩
    · have h3 := h.2 e1 e2
      exact h3.kept hq (hG.2.2.2 k h3.1)
  · rw [if_neg hk] at h ⊢
    refine ⟨fun e => ⟨(h.1 e).1, by rw [ho (Nat.not_lt.mp hk)]; exact (h.1 e).2⟩, fun e => ?_⟩
    obtain ⟨r, h1, h2, h3⟩ := h.2 e
    exact ⟨r, h1, h2, h3.kept (ho (Nat.not_lt.mp hk))⟩
theorem j_in.moved {k : Nat} {c : jc} (hvm : U.vm.Alike V.vm) (h : j_in g ad B D cA cl U H k c) : j_in g ad B D cA cl V H k c := by
  unfold j_in at h ⊢
  by_cases hk : k < 9
  · rw [if_pos hk] at h ⊢
    refine ⟨fun e => ?_, fun e1 e2 => (h.2 e1 e2).moved hvm⟩
    obtain ⟨h8, cell, h2, h3, h4⟩ := h.1 e
    exact ⟨h8, cell, h2, State.isArrayOf_alike hvm h3, h4⟩
  · rw [if_neg hk] at h ⊢
    exact h
theorem j_H.moved (hvm : U.vm.Alike V.vm) (h : j_H g ad B D cA cl U H hp) : j_H g ad B D cA cl V H hp :=
  ⟨h.1, h.2.1, h.2.2.1, fun k c hk => (h.2.2.2 k c hk).moved hvm⟩
/-- a cell is changed -/
theorem j_H.put {a : Nat} {c0 c : jc} (hG : j_G g ad B) (h : j_H g ad B D cA cl U H hp) (h0 : hp[a]? = some c0) (h9 : 9 ≤ a) (hz : H1.size = H.size) (hq : ∀ q : Nat, q ≠ ad a → H1[q]? = H[q]?) (hc : j_in g ad B D cA cl U H1 a c) : j_H g ad B D cA cl U H1 (j_set c hp a) := by
  obtain ⟨h1, h2, h3, h4⟩ := h
  have hl := (List.getElem?_eq_some_iff.mp h0).1
  have haB : B ≤ ad a := by rw [hG.2.2.1 a h9]; omega
  rw [j_set_eq]
  refine ⟨by rw [List.length_set]; exact h1, by rw [List.length_set, hz]; exact h2, by rw [List.getElem?_set_ne (by omega)]; exact h3, fun k d hk => ?_⟩
  by_cases hka : k = a
  · subst hka
    rw [List.getElem?_set_self hl] at hk
    cases hk
    exact hc
  · rw [List.getElem?_set_ne (Ne.symm hka)] at hk
    refine (h4 k d hk).kept hG (fun q hqB => hq q (by omega)) (fun hk9 => hq _ ?_)
    rw [hG.2.2.1 a h9, hG.2.2.1 k hk9]
    omega
/-- a cell is made -/
theorem j_H.push {c : jc} (hG : j_G g ad B) (h : j_H g ad B D cA cl U H hp) (hz : H1.size = H.size + 1) (hq : ∀ q : Nat, q < H.size → H1[q]? = H[q]?) (hc : j_in g ad B D cA cl U H1 hp.length c) : j_H g ad B D cA cl U H1 (hp ++ [c]) := by
  obtain ⟨h1, h2, h3, h4⟩ := h
  refine ⟨by simp; omega, by rw [hz]; simp; omega, by rw [List.getElem?_append_left (by omega)]; exact h3, fun k d hk => ?_⟩
  by_cases hkl : k < hp.length
  · rw [List.getElem?_append_left hkl] at hk
    refine (h4 k d hk).kept hG (fun q hqB => hq q (by omega)) (fun hk9 => hq _ ?_)
    rw [hG.2.2.1 k hk9]
    omega
  · rw [List.getElem?_append_right (by omega)] at hk
    have hz0 : k - hp.length < 1 := (List.getElem?_eq_some_iff.mp hk).1
    have hk0 : k = hp.length := by omega
    subst hk0
    rw [Nat.sub_self] at hk
    cases hk
    exact hc
theorem j_H_ad (hG : j_G g ad B) (h : j_H g ad B D cA cl U H hp) : ad hp.length = H.size := by
  rw [hG.2.2.1 _ h.1]
  have := h.2.1
  have := h.1
  omega
theorem j_G.ref (hG : j_G g ad B) {k : Nat} (h : 9 ≤ k) : g k = .ref (ad k) := hG.1 k (by omega)
theorem j_G.cat (hG : j_G g ad B) (k : Nat) : (g k).category = 1 := by
  by_cases h : k = 8
  · subst h
    rcases hG.2.1 with e | ⟨a, e⟩ <;> rw [e] <;> rfl
  · rw [hG.1 k h]
    rfl
theorem j_rv_cat (hG : j_G g ad B) (v : Value) : (j_rv g v).category = v.category := by
  cases v with
  | ref k => exact hG.cat k
  | _ => rfl
theorem j_cats (hG : j_G g ad B) (st : List Value) : ((st.map (j_rv g)).map fun v => v.category) = st.map fun v => v.category := by
  rw [List.map_map]
  exact List.map_congr_left (fun v _ => j_rv_cat hG v)
theorem j_cat1_eq (hG : j_G g ad B) {v : Value} (h : j_cat1 v = true) : (j_rv g v).category = 1 := by
  rw [j_rv_cat hG]
  cases v <;> first | rfl | cases h
theorem j_ins_mem {q x : Nat × Value} {l : jL} (h : x ∈ j_ins q l) : x = q ∨ x ∈ l := by
  induction l with
  | nil => exact Or.inl (List.mem_singleton.mp h)
  | cons a t ih =>
    have h' : x ∈ cond (Nat.ble q.1 a.1) (q :: a :: t) (a :: j_ins q t) := h
    cases hb : Nat.ble q.1 a.1 with
    | true =>
      rw [hb] at h'
      exact List.mem_cons.mp h'
    | false =>
      rw [hb] at h'
      rcases List.mem_cons.mp h' with e | e
      · exact Or.inr (by rw [e]; exact List.mem_cons_self)
      · rcases ih e with e1 | e1
        · exact Or.inl e1
        · exact Or.inr (List.mem_cons_of_mem _ e1)
theorem j_put1_has (hG : j_G g ad B) {ls : Array Slot} {n i : Nat} {lv : jL} {v : Value} (h : lv_has ls n ((i, j_rv g v) :: (j_sl g lv).filter (fun q => !(q.1 == i) && !(q.1 + 1 == i && q.2.category == 2)))) : lv_has ls n (j_sl g (j_put1 lv i v)) := by
  refine ⟨h.1, h.2.1, fun q hq => ?_⟩
  obtain ⟨y, hy, e⟩ := List.mem_map.mp hq
  rw [← e]
  rcases j_ins_mem hy with e1 | e1
  · rw [e1]; exact h.2.2 _ List.mem_cons_self
  · obtain ⟨m1, m2⟩ := List.mem_filter.mp e1
    refine h.2.2 _ (List.mem_cons_of_mem _ (List.mem_filter.mpr ⟨List.mem_map.mpr ⟨y, m1, rfl⟩, ?_⟩))
    simpa [j_rv_cat hG] using m2
theorem j_put2_has (hG : j_G g ad B) {ls : Array Slot} {n i : Nat} {lv : jL} {v : Value} (h : lv_has ls n ((i, j_rv g v) :: (j_sl g lv).filter (fun q => !(q.1 == i) && (!(q.1 == i + 1) && !(q.1 + 1 == i && q.2.category == 2))))) : lv_has ls n (j_sl g (j_put2 lv i v)) := by
  refine ⟨h.1, h.2.1, fun q hq => ?_⟩
  obtain ⟨y, hy, e⟩ := List.mem_map.mp hq
  rw [← e]
  rcases j_ins_mem hy with e1 | e1
  · rw [e1]; exact h.2.2 _ List.mem_cons_self
  · obtain ⟨m1, m2⟩ := List.mem_filter.mp e1
    refine h.2.2 _ (List.mem_cons_of_mem _ (List.mem_filter.mpr ⟨List.mem_map.mpr ⟨y, m1, rfl⟩, ?_⟩))
    simpa [j_rv_cat hG] using m2
theorem j_at_some {a : Nat} {ts : List Nat} {l : List Value} (h : j_at hp a ts = some l) : ∃ t, hp[a]? = some (true, t, l) ∧ t ∈ ts := by
  unfold j_at at h
  rw [j_nth_eq] at h
  split at h
  · rename_i t l' he
    cases hb : ts.any (fun z => Nat.beq z t) with
    | false => rw [hb] at h; cases h
    | true =>
      rw [hb] at h
      cases h
      obtain ⟨z, hz, e⟩ := List.any_eq_true.mp hb
      exact ⟨t, he, by rw [← Nat.eq_of_beq_eq_true e]; exact hz⟩
  · cases h
/-- an array as the large machine sees it -/
theorem j_arr (hG : j_G g ad B) (hK : va_K D cl (j_tys cA) U) (h : j_H g ad B D cA cl U H hp) {a t : Nat} {l : List Value} (hn : hp[a]? = some (true, t, l)) : ∃ cell : Cell, g a = .ref (ad a) ∧ H[ad a]? = some cell ∧ U.isArrayOf cell (j_ty t) ∧ cell.vm ≠ .unknown ∧ l.length ≤ cell.slots.size ∧ cell.slots.size.toInt32 = Int32.ofNat l.length ∧ ∀ (j : Nat) (v : Value), l[j]? = some v → cell.slots[j]? = some (j_rv g v) := by
  have h1 := h.2.2.2 a _ hn
  have h8 : a ≠ 8 := fun e => by rw [e, h.2.2.1] at hn; cases hn
  unfold j_in at h1
  by_cases hk : a < 9
  · rw [if_pos hk] at h1
    obtain ⟨-, cell, h2⟩ := h1.1 rfl
    exact ⟨cell, hG.1 a h8, h2⟩
  · rw [if_neg hk] at h1
    obtain ⟨ht, h2⟩ := h1.1 rfl
    refine ⟨_, hG.1 a h8, h2, And.intro ((hK.2 t _ (j_tys_at cA ht)).1 _ _) ?_⟩
    refine ⟨(fun e => by cases e), (by rw [arrV_size]; exact Nat.le_refl _), (by rw [arrV_size]), fun j v hv => ?_⟩
    have hj := (List.getElem?_eq_some_iff.mp hv).1
    rw [arrV_read _ _ hj]
    simp [List.getD_eq_getElem?_getD, hv]
/-- a store into a new array -/
theorem j_stored (hG : j_G g ad B) (h : j_H g ad B D cA cl U H hp) {a t i : Nat} {l : List Value} {v : Value} (hn : hp[a]? = some (true, t, l)) (h9 : 9 ≤ a) (hi : i < l.length) (hz : H1.size = H.size) (hq : ∀ q : Nat, q ≠ ad a → H1[q]? = H[q]?)
    (he : ∀ cell : Cell, H[ad a]? = some cell → H1[ad a]? = some (cell.setSlot i (j_rv g v))) : j_H g ad B D cA cl U H1 (j_set (true, t, j_set v l i) hp a) := by
  refine h.put hG hn h9 hz hq ?_
  have h1 := h.2.2.2 a _ hn
  unfold j_in at h1 ⊢
  rw [if_neg (by omega)] at h1 ⊢
  obtain ⟨ht, h2⟩ := h1.1 rfl
  refine ⟨fun _ => ⟨ht, ?_⟩, (fun e => by cases e)⟩
  rw [he _ h2, arrV_store, j_set_eq]
  congr 1
  simp only [List.length_set]
  congr 1
  funext j
  unfold updV
  by_cases hj : j = i
  · subst hj
    simp [List.getD_eq_getElem?_getD, hi]
  · simp [List.getD_eq_getElem?_getD, List.getElem?_set_ne (Ne.symm hj), hj]
end JW
theorem j_go_some {pc len : Nat} {lv : jL} {hp : List jc} {r : Option (List Value)} {X : jX} (h : j_go pc len lv hp r = some X) : ∃ st', r = some st' ∧ X = (pc + len, lv, st', hp, 0, 0) := by
  cases r with
  | none => cases h
  | some q => exact ⟨q, rfl, (Option.some.inj h).symm⟩
theorem j_ii_some {f : Int32 → Int32 → Int32} {st q : List Value} (h : j_ii f st = some q) : ∃ x y r, st = .int y :: .int x :: r ∧ q = .int (f x y) :: r := by
  unfold j_ii at h
  split at h
  · exact ⟨_, _, _, rfl, (Option.some.inj h).symm⟩
  · cases h
theorem j_id_some {f : Int32 → Int32 → Int32} {st q : List Value} (h : j_id f st = some q) : ∃ x y r, st = .int y :: .int x :: r ∧ q = .int (f x y) :: r ∧ ¬ y = 0 := by
  unfold j_id at h
  split at h
  · split at h
    · cases h
    · exact ⟨_, _, _, rfl, (Option.some.inj h).symm, by assumption⟩
  · cases h
theorem j_ll_some {f : Int64 → Int64 → Int64} {st q : List Value} (h : j_ll f st = some q) : ∃ x y r, st = .long y :: .long x :: r ∧ q = .long (f x y) :: r := by
  unfold j_ll at h
  split at h
  · exact ⟨_, _, _, rfl, (Option.some.inj h).symm⟩
  · cases h
theorem j_ld_some {f : Int64 → Int64 → Int64} {st q : List Value} (h : j_ld f st = some q) : ∃ x y r, st = .long y :: .long x :: r ∧ q = .long (f x y) :: r ∧ ¬ y = 0 := by
  unfold j_ld at h
  split at h
  · split at h
    · cases h
    · exact ⟨_, _, _, rfl, (Option.some.inj h).symm, by assumption⟩
  · cases h
theorem j_li_some {f : Int64 → Int32 → Int64} {st q : List Value} (h : j_li f st = some q) : ∃ x y r, st = .int y :: .long x :: r ∧ q = .long (f x y) :: r := by
  unfold j_li at h
  split at h
  · exact ⟨_, _, _, rfl, (Option.some.inj h).symm⟩
  · cases h
theorem j_ald_some {hp : List jc} {ts : List Nat} {st q : List Value} (h : j_ald hp ts st = some q) : ∃ i a r t l v, st = .int i :: .ref a :: r ∧ hp[a]? = some (true, t, l) ∧ t ∈ ts ∧ ¬ i < 0 ∧ l[i.toNatClampNeg]? = some v ∧ q = v :: r := by
  unfold j_ald at h
  split at h
  · rename_i i a r
    split at h
    · rename_i l hl
      split at h
      · cases h
      · rename_i hi
        split at h
        · rename_i v hv
          obtain ⟨t, h1, h2⟩ := j_at_some hl
          rw [j_nth_eq] at hv
          exact ⟨i, a, r, t, l, v, rfl, h1, h2, hi, hv, (Option.some.inj h).symm⟩
        · cases h
    · cases h
  · cases h
theorem j_ast_some {hp hp' : List jc} {a t : Nat} {i : Int32} {v : Value} (h : j_ast hp a t i v = some hp') : ∃ l, hp[a]? = some (true, t, l) ∧ 9 ≤ a ∧ ¬ i < 0 ∧ i.toNatClampNeg < l.length ∧ hp' = j_set (true, t, j_set v l i.toNatClampNeg) hp a := by
  unfold j_ast at h
  cases h9 : Nat.ble 9 a with
  | false => rw [h9] at h; cases h
  | true =>
    rw [h9] at h
    have h' : (match j_at hp a [t] with
      | some l => if i < 0 then none else cond (Nat.blt i.toNatClampNeg l.length) (some (j_set (true, t, j_set v l i.toNatClampNeg) hp a)) none
      | none => none) = some hp' := h
    split at h'
    · rename_i l hl
      split at h'
      · cases h'
      · rename_i hi
        cases hb : Nat.blt i.toNatClampNeg l.length with
        | false => rw [hb] at h'; cases h'
        | true =>
          rw [hb] at h'
          obtain ⟨t', h1, h2⟩ := j_at_some hl
          have e : t' = t := by simpa using h2
          subst e
          exact ⟨l, h1, Nat.le_of_ble_eq_true h9, hi, Nat.le_of_ble_eq_true hb, (Option.some.inj h').symm⟩
    · cases h'
