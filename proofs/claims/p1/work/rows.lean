section
/-! THE SMALL MACHINE: methods run over a list of cells; a reference is a place in the list. Places 0 .. 8 are old cells (the script, a static table, string constants), read alone. -/
abbrev jc : Type := Bool × Nat × List Value
abbrev jE : Type := Instr × Nat × Nat × Nat × Value × FieldType
abbrev jL : Type := List (Nat × Value)
abbrev jX : Type := Nat × jL × List Value × List jc × Nat × Nat
noncomputable def j_nth {α : Type} (l : List α) : Nat → Option α := List.rec (fun _ => none) (fun a _ ih i => Nat.casesOn i (some a) (fun j => ih j)) l
noncomputable def j_set {α : Type} (v : α) (l : List α) : Nat → List α := List.rec (fun _ => []) (fun a t ih i => Nat.casesOn i (v :: t) (fun j => a :: ih j)) l
noncomputable def j_get (l : jL) (i : Nat) : Option Value := List.rec none (fun q _ ih => cond (Nat.beq q.1 i) (some q.2) ih) l
def j_cat1 : Value → Bool | .long _ => false | .double _ => false | _ => true
def j_put1 (lv : jL) (i : Nat) (v : Value) : jL := (i, v) :: lv.filter (fun q => !(q.1 == i) && !(q.1 + 1 == i && q.2.category == 2))
def j_put2 (lv : jL) (i : Nat) (v : Value) : jL := (i, v) :: lv.filter (fun q => !(q.1 == i) && (!(q.1 == i + 1) && !(q.1 + 1 == i && q.2.category == 2)))
def j_ii (f : Int32 → Int32 → Int32) : List Value → Option (List Value) | .int y :: .int x :: r => some (.int (f x y) :: r) | _ => none
def j_id (f : Int32 → Int32 → Int32) : List Value → Option (List Value) | .int y :: .int x :: r => if y = 0 then none else some (.int (f x y) :: r) | _ => none
def j_ll (f : Int64 → Int64 → Int64) : List Value → Option (List Value) | .long y :: .long x :: r => some (.long (f x y) :: r) | _ => none
def j_ld (f : Int64 → Int64 → Int64) : List Value → Option (List Value) | .long y :: .long x :: r => if y = 0 then none else some (.long (f x y) :: r) | _ => none
def j_li (f : Int64 → Int32 → Int64) : List Value → Option (List Value) | .int y :: .long x :: r => some (.long (f x y) :: r) | _ => none
def j_ck (c : ClassFile.Cond) (x y : Int32) : Bool := match c with
  | .eq => decide (x = y)
  | .ne => decide (¬ x = y)
  | .lt => decide (x < y)
  | .ge => decide (y ≤ x)
  | .gt => decide (y < x)
  | .le => decide (x ≤ y)
def j_fit : FieldType → Value → Bool
  | .int, .int _ => true
  | .long, .long _ => true
  | .object _, .ref _ => true
  | .array _, .ref _ => true
  | .boolean, .int x => decide (x = 0) || decide (x = 1)
  | .byte, .int x => decide (x.toInt8.toInt32 = x) && decide (-128 ≤ x) && decide (x ≤ 127)
  | .char, .int x => decide ((x.toUInt32 % 65536).toInt32 = x) && decide (0 ≤ x) && decide (x ≤ 65535)
  | _, _ => false
noncomputable def j_at (hp : List jc) (a : Nat) (ts : List Nat) : Option (List Value) := match j_nth hp a with
  | some (true, t, l) => cond (ts.any (fun z => Nat.beq z t)) (some l) none
  | _ => none
noncomputable def j_ald (hp : List jc) (ts : List Nat) : List Value → Option (List Value)
  | .int i :: .ref a :: r => match j_at hp a ts with
    | some l => if i < 0 then none else match j_nth l i.toNatClampNeg with
      | some v => some (v :: r)
      | none => none
    | none => none
  | _ => none
noncomputable def j_ast (hp : List jc) (a t : Nat) (i : Int32) (v : Value) : Option (List jc) := cond (Nat.ble 9 a) (match j_at hp a [t] with
  | some l => if i < 0 then none else cond (Nat.blt i.toNatClampNeg l.length) (some (j_set (true, t, j_set v l i.toNatClampNeg) hp a)) none
  | none => none) none
def j_tsw (pc : Nat) (dflt lo hi : Int) (offs : Array Int) (x : Int) : Option Nat :=
  let off : Option Int := if x < lo ∨ hi < x then some dflt else offs[(x - lo).toNat]?
  match off with
  | some o => match (pc : Int) + o with
    | .ofNat n => some n
    | .negSucc _ => none
  | none => none
def j_lsw (pc : Nat) (dflt : Int) (ps : Array (Int × Int)) (x : Int) : Option Nat := match (pc : Int) + Op.lookupswitch.offset ps.toList dflt x with
  | .ofNat n => some n
  | .negSucc _ => none
def j_go (pc len : Nat) (lv : jL) (hp : List jc) : Option (List Value) → Option jX | some st' => some (pc + len, lv, st', hp, 0, 0) | none => none
noncomputable def jstep (df : Nat → List Value) (nl pc : Nat) (e : jE) (lv : jL) (st : List Value) (hp : List jc) : Option jX :=
  match e.1 with
  | .iconst n => j_go pc 1 lv hp (some (.int (Int32.ofInt n) :: st))
  | .bipush n => j_go pc 2 lv hp (some (.int (Int8.ofInt n).toInt32 :: st))
  | .sipush n => j_go pc 3 lv hp (some (.int (Int16.ofInt n).toInt32 :: st))
  | .lconst n => j_go pc 1 lv hp (some (.long (Int64.ofNat (n : Nat)) :: st))
  | .iload_n k => j_go pc 1 lv hp (match j_get lv k with | some (.int x) => some (.int x :: st) | _ => none)
  | .iload i => j_go pc 2 lv hp (match j_get lv i with | some (.int x) => some (.int x :: st) | _ => none)
  | .lload_n k => j_go pc 1 lv hp (match j_get lv k with | some (.long x) => some (.long x :: st) | _ => none)
  | .lload i => j_go pc 2 lv hp (match j_get lv i with | some (.long x) => some (.long x :: st) | _ => none)
  | .aload_n k => j_go pc 1 lv hp (match j_get lv k with | some (.ref x) => some (.ref x :: st) | _ => none)
  | .aload i => j_go pc 2 lv hp (match j_get lv i with | some (.ref x) => some (.ref x :: st) | _ => none)
  | .istore_n k => match st with | .int x :: r => cond (Nat.blt k nl) (some (pc + 1, j_put1 lv k (.int x), r, hp, 0, 0)) none | _ => none
  | .istore i => match st with | .int x :: r => cond (Nat.blt i nl) (some (pc + 2, j_put1 lv i (.int x), r, hp, 0, 0)) none | _ => none
  | .astore_n k => match st with | .ref x :: r => cond (Nat.blt k nl && Nat.ble 9 x) (some (pc + 1, j_put1 lv k (.ref x), r, hp, 0, 0)) none | _ => none
  | .astore i => match st with | .ref x :: r => cond (Nat.blt i nl && Nat.ble 9 x) (some (pc + 2, j_put1 lv i (.ref x), r, hp, 0, 0)) none | _ => none
  | .lstore_n k => match st with | .long x :: r => cond (Nat.blt (k + 1) nl) (some (pc + 1, j_put2 lv k (.long x), r, hp, 0, 0)) none | _ => none
  | .lstore i => match st with | .long x :: r => cond (Nat.blt (i + 1) nl) (some (pc + 2, j_put2 lv i (.long x), r, hp, 0, 0)) none | _ => none
  | .iinc i n => match j_get lv i with | some (.int x) => cond (Nat.blt i nl && Nat.beq e.2.1 3) (some (pc + 3, j_put1 lv i (.int (x + Int32.ofInt n)), st, hp, 0, 0)) none | _ => none
  | .iadd => j_go pc 1 lv hp (j_ii (fun x y => x + y) st)
  | .isub => j_go pc 1 lv hp (j_ii (fun x y => x - y) st)
  | .imul => j_go pc 1 lv hp (j_ii (fun x y => x * y) st)
  | .iand => j_go pc 1 lv hp (j_ii (fun x y => x &&& y) st)
  | .ior => j_go pc 1 lv hp (j_ii (fun x y => x ||| y) st)
  | .ishl => j_go pc 1 lv hp (j_ii (fun x y => x <<< (y &&& 31)) st)
  | .ishr => j_go pc 1 lv hp (j_ii (fun x y => x >>> (y &&& 31)) st)
  | .iushr => j_go pc 1 lv hp (j_ii (fun x y => (x.toUInt32 >>> (y.toUInt32 &&& Int32.toUInt32 31)).toInt32) st)
  | .idiv => j_go pc 1 lv hp (j_id (fun x y => x / y) st)
  | .irem => j_go pc 1 lv hp (j_id (fun x y => x - x / y * y) st)
  | .ladd => j_go pc 1 lv hp (j_ll (fun x y => x + y) st)
  | .lsub => j_go pc 1 lv hp (j_ll (fun x y => x - y) st)
  | .lmul => j_go pc 1 lv hp (j_ll (fun x y => x * y) st)
  | .land => j_go pc 1 lv hp (j_ll (fun x y => x &&& y) st)
  | .lor => j_go pc 1 lv hp (j_ll (fun x y => x ||| y) st)
  | .lxor => j_go pc 1 lv hp (j_ll (fun x y => x ^^^ y) st)
  | .ldiv => j_go pc 1 lv hp (j_ld (fun x y => x / y) st)
  | .lrem => j_go pc 1 lv hp (j_ld (fun x y => x - x / y * y) st)
  | .lshl => j_go pc 1 lv hp (j_li (fun x y => x <<< (y.toInt64 &&& 63)) st)
  | .lshr => j_go pc 1 lv hp (j_li (fun x y => x >>> (y.toInt64 &&& 63)) st)
  | .lushr => j_go pc 1 lv hp (j_li (fun x y => (x.toUInt64 >>> (y.toInt64.toUInt64 &&& Int64.toUInt64 63)).toInt64) st)
  | .lcmp => j_go pc 1 lv hp (match st with | .long y :: .long x :: r => some (.int (lg_cmp x y) :: r) | _ => none)
  | .ineg => j_go pc 1 lv hp (match st with | .int x :: r => some (.int (-x) :: r) | _ => none)
  | .lneg => j_go pc 1 lv hp (match st with | .long x :: r => some (.long (-x) :: r) | _ => none)
  | .i2l => j_go pc 1 lv hp (match st with | .int x :: r => some (.long x.toInt64 :: r) | _ => none)
  | .l2i => j_go pc 1 lv hp (match st with | .long x :: r => some (.int x.toInt32 :: r) | _ => none)
  | .i2c => j_go pc 1 lv hp (match st with | .int x :: r => some (.int (x.toUInt32 % 65536).toInt32 :: r) | _ => none)
  | .dup => j_go pc 1 lv hp (match st with | v :: r => cond (j_cat1 v) (some (v :: v :: r)) none | _ => none)
  | .pop => j_go pc 1 lv hp (match st with | v :: r => cond (j_cat1 v) (some r) none | _ => none)
  | .dup2 => j_go pc 1 lv hp (match st with | v :: w :: r => cond (j_cat1 v && j_cat1 w) (some (v :: w :: v :: w :: r)) none | _ => none)
  | .ifCond c _ => match st with | .int x :: r => some (cond (j_ck c x 0) e.2.2.1 (pc + 3), lv, r, hp, 0, 0) | _ => none
  | .if_icmp c _ => match st with | .int y :: .int x :: r => some (cond (j_ck c x y) e.2.2.1 (pc + 3), lv, r, hp, 0, 0) | _ => none
  | .goto _ => some (e.2.2.1, lv, st, hp, 0, 0)
  | .tableswitch dflt lo hi offs => match st with | .int x :: r => (match j_tsw pc dflt lo hi offs x.toInt with | some t => some (t, lv, r, hp, 0, 0) | none => none) | _ => none
  | .lookupswitch dflt ps => match st with | .int x :: r => (match j_lsw pc dflt ps x.toInt with | some t => some (t, lv, r, hp, 0, 0) | none => none) | _ => none
  | .getfield _ => j_go pc 3 lv hp (match st with
    | .ref a :: r => match j_nth hp a with
      | some (false, ci, fs) => cond (Nat.beq ci e.2.2.1 && (Nat.ble 9 a || Nat.beq ci 99)) (match j_nth fs e.2.2.2.1 with | some v => some (v :: r) | none => none) none
      | _ => none
    | _ => none)
  | .putfield _ => match st with
    | v :: .ref a :: r => match j_nth hp a with
      | some (false, ci, fs) => cond (Nat.beq ci e.2.2.1 && Nat.ble 9 a && j_fit e.2.2.2.2.2 v) (some (pc + 3, lv, r, j_set (false, ci, j_set v fs e.2.2.2.1) hp a, 0, 0)) none
      | _ => none
    | _ => none
  | .getstatic _ => j_go pc 3 lv hp (some (e.2.2.2.2.1 :: st))
  | .ldc2_w _ => j_go pc 3 lv hp (some (e.2.2.2.2.1 :: st))
  | .ldc _ => j_go pc 2 lv hp (some (e.2.2.2.2.1 :: st))
  | .arraylength => j_go pc 1 lv hp (match st with
    | .ref a :: r => match j_nth hp a with
      | some (true, _, l) => some (.int (Int32.ofNat l.length) :: r)
      | _ => none
    | _ => none)
  | .iaload => j_go pc 1 lv hp (j_ald hp [0] st)
  | .laload => j_go pc 1 lv hp (j_ald hp [1] st)
  | .caload => j_go pc 1 lv hp (j_ald hp [2] st)
  | .baload => j_go pc 1 lv hp (j_ald hp [3, 5] st)
  | .aaload => j_go pc 1 lv hp (j_ald hp [4] st)
  | .iastore => match st with | .int x :: .int i :: .ref a :: r => (match j_ast hp a 0 i (.int x) with | some hp' => some (pc + 1, lv, r, hp', 0, 0) | none => none) | _ => none
  | .lastore => match st with | .long x :: .int i :: .ref a :: r => (match j_ast hp a 1 i (.long x) with | some hp' => some (pc + 1, lv, r, hp', 0, 0) | none => none) | _ => none
  | .castore => match st with | .int x :: .int i :: .ref a :: r => (match j_ast hp a 2 i (narrow .char (.int x)) with | some hp' => some (pc + 1, lv, r, hp', 0, 0) | none => none) | _ => none
  | .bastore => match st with | .int x :: .int i :: .ref a :: r => (match j_ast hp a 3 i (narrow .boolean (.int x)) with | some hp' => some (pc + 1, lv, r, hp', 0, 0) | none => none) | _ => none
  | .aastore => match st with
    | .ref v :: .int i :: .ref a :: r => match j_nth hp v with
      | some (false, ci, _) => cond (Nat.beq ci 4 && Nat.ble 9 v) (match j_ast hp a 4 i (.ref v) with | some hp' => some (pc + 1, lv, r, hp', 0, 0) | none => none) none
      | _ => none
    | _ => none
  | .new _ => some (pc + 3, lv, .ref hp.length :: st, hp ++ [(false, e.2.2.1, df e.2.2.1)], 1, (df e.2.2.1).length)
  | .newarray _ => match st with
    | .int n :: r => if n < 0 then none else cond (Nat.ble n.toNatClampNeg 60000000) (some (pc + 2, lv, .ref hp.length :: r, hp ++ [(true, e.2.2.1, List.replicate n.toNatClampNeg e.2.2.2.2.1)], 1, n.toNatClampNeg)) none
    | _ => none
  | .anewarray _ => match st with
    | .int n :: r => if n < 0 then none else cond (Nat.ble n.toNatClampNeg 60000000) (some (pc + 3, lv, .ref hp.length :: r, hp ++ [(true, 4, List.replicate n.toNatClampNeg .null)], 1, n.toNatClampNeg)) none
    | _ => none
  | _ => none
def j_hd9 : List Value → Bool | .ref a :: _ => Nat.ble 9 a | _ => false
abbrev jR : Type := Option Value × List jc × Nat × Nat
noncomputable def jbody (F : Nat → Nat → Option jE) (mx rc : Nat → Nat) (df : Nat → List Value) (ih : Nat → Nat → jL → List Value → List jc → Nat → Nat → Nat → Nat → Option jR) (k pc : Nat) (lv : jL) (st : List Value) (hp : List jc) (c sl fr lo : Nat) : Option jR :=
  let call (virt : Bool) (e : jE) : Option jR :=
    let as := (st.take e.2.2.2.1).reverse
    let rest := st.drop e.2.2.2.1
    let ok : Bool := Nat.ble e.2.2.2.1 st.length && Nat.ble (rest.map fun v => v.category).sum 8 && Nat.ble 1 fr && Nat.ble (mx e.2.2.1 + 19) lo && Nat.ble (lg_sl as).length (mx e.2.2.1) &&
      (if virt then (match as with | .ref a :: _ => (match j_nth hp a with | some (false, ci, _) => Nat.beq ci (rc e.2.2.1) && (Nat.ble 9 a || Nat.beq ci 99) | _ => false) | _ => false) else true)
    cond ok (match ih e.2.2.1 0 (lv_args 0 as) [] hp 0 0 (fr - 1) (lo - (mx e.2.2.1 + 19)) with
      | some (v, hp', c1, s1) => ih k (pc + 3) lv (v.toList ++ rest) hp' (c + c1) (sl + s1) fr lo
      | none => none) none
  match F k pc with
  | none => none
  | some e => match e.1 with
    | .ireturn => match st with | [.int x] => cond (j_fit e.2.2.2.2.2 (.int x)) (some (some (.int x), hp, c, sl)) none | _ => none
    | .lreturn => match st with | [.long x] => some (some (.long x), hp, c, sl) | _ => none
    | .areturn => match st with | [.ref x] => cond (Nat.ble 9 x) (some (some (.ref x), hp, c, sl)) none | _ => none
    | .return_ => match st with | [] => some (none, hp, c, sl) | _ => none
    | .invokevirtual _ => call true e
    | .invokestatic _ => call false e
    | .invokespecial _ => cond (Nat.beq e.2.2.1 1000)
      (match st with
        | .ref a :: r => cond (Nat.ble 9 a && Nat.ble 1 fr && Nat.ble ((r.map fun v => v.category).sum + 12) lo) (ih k (pc + 3) lv r hp c sl fr lo) none
        | _ => none)
      (cond (j_hd9 (st.drop (e.2.2.2.1 - 1))) (call false e) none)
    | _ => match jstep df (mx k) pc e lv st hp with
      | some (pc', lv', st', hp', dc, ds) => ih k pc' lv' st' hp' (c + dc) (sl + ds) fr lo
      | none => none
noncomputable def jrun (F : Nat → Nat → Option jE) (mx rc : Nat → Nat) (df : Nat → List Value) (n : Nat) : Nat → Nat → jL → List Value → List jc → Nat → Nat → Nat → Nat → Option jR :=
  Nat.rec (fun _ _ _ _ _ _ _ _ _ => none) (fun _ ih => jbody F mx rc df ih) n
theorem jrun_succ (F : Nat → Nat → Option jE) (mx rc : Nat → Nat) (df : Nat → List Value) (n : Nat) : jrun F mx rc df (n + 1) = jbody F mx rc df (jrun F mx rc df n) := rfl
end
section
/-! THE SMALL MACHINE AGAINST THE LARGE ONE: words for the two worlds side by side. -/
theorem j_nth_eq {α : Type} (l : List α) (i : Nat) : j_nth l i = l[i]? := by
  induction l generalizing i with
  | nil => simp [j_nth]
  | cons a t ih =>
    cases i with
    | zero => rfl
    | succ j => rw [List.getElem?_cons_succ, ← ih j]; rfl
theorem j_set_eq {α : Type} (v : α) (l : List α) (i : Nat) : j_set v l i = l.set i v := by
  induction l generalizing i with
  | nil => simp [j_set]
  | cons a t ih =>
    cases i with
    | zero => rfl
    | succ j => rw [List.set_cons_succ, ← ih j]; rfl
theorem j_get_mem {l : jL} {i : Nat} {v : Value} (h : j_get l i = some v) : (i, v) ∈ l := by
  induction l with
  | nil => simp [j_get] at h
  | cons q t ih =>
    have h' : cond (Nat.beq q.1 i) (some q.2) (j_get t i) = some v := h
    cases hb : Nat.beq q.1 i with
    | true =>
      rw [hb] at h'
      have e1 : q.1 = i := Nat.eq_of_beq_eq_true hb
      have e2 : q.2 = v := Option.some.inj h'
      rw [← e1, ← e2]
      exact List.mem_cons_self
    | false =>
      rw [hb] at h'
      exact List.mem_cons_of_mem _ (ih h')
def j_rv (g : Nat → Value) : Value → Value | .ref k => g k | v => v
def j_sl (g : Nat → Value) (lv : jL) : jL := lv.map (fun q => (q.1, j_rv g q.2))
theorem j_get_ls {g : Nat → Value} {ls : Array Slot} {n i : Nat} {lv : jL} {v : Value} (hl : lv_has ls n (j_sl g lv)) (h : j_get lv i = some v) : ls[i]? = some (.val (j_rv g v)) :=
  hl.2.2 (i, j_rv g v) (List.mem_map.mpr ⟨(i, v), j_get_mem h, rfl⟩)
def j_ty : Nat → FieldType := fun t => match t with
  | 0 => .int
  | 1 => .long
  | 2 => .char
  | 3 => .boolean
  | 4 => .object "HundredWords$Row"
  | _ => .byte
def j_tys (cA : Nat → ClassId) : List (ClassId × FieldType) := [(cA 0, .int), (cA 1, .long), (cA 2, .char), (cA 3, .boolean), (cA 4, .object "HundredWords$Row"), (cA 5, .byte)]
theorem j_tys_at (cA : Nat → ClassId) {t : Nat} (h : t < 6) : (j_tys cA)[t]? = some (cA t, j_ty t) := by
  match t, h with
  | 0, _ => rfl
  | 1, _ => rfl
  | 2, _ => rfl
  | 3, _ => rfl
  | 4, _ => rfl
  | 5, _ => rfl
def j_A (B : Nat) : Nat → Prop := fun q => B ≤ q
def j_G (g : Nat → Value) (ad : Nat → Nat) (B : Nat) : Prop := (∀ k, k ≠ 8 → g k = .ref (ad k)) ∧ (g 8 = .null ∨ ∃ a, g 8 = .ref a) ∧ (∀ k, 9 ≤ k → ad k = B + (k - 9)) ∧ ∀ k, k < 8 → ad k < B
def j_str (g : Nat → Value) (ad : Nat → Nat) (B : Nat) (U : State) (H : Heap) (k : Nat) (fs : List Value) : Prop :=
  k < 8 ∧ (∃ cell : Cell, H[ad k]? = some cell ∧ cell.vm.isStatics = false ∧ U.vm.findClass "java/lang/String" = some cell.cls) ∧
  (∀ v, fs[0]? = some v → va_OF "java/lang/String" "value" "[B" (j_rv g v) (ad k) (j_A B) U H) ∧ (∀ v, fs[1]? = some v → va_OF "java/lang/String" "coder" "B" (j_rv g v) (ad k) (j_A B) U H) ∧ fs.length = 2
def j_in (g : Nat → Value) (ad : Nat → Nat) (B : Nat) (D : va_G) (cA : Nat → ClassId) (cl : List vw_C) (U : State) (H : Heap) (k : Nat) (c : jc) : Prop :=
  if k < 9 then
    (c.1 = true → k < 8 ∧ ∃ cell : Cell, H[ad k]? = some cell ∧ U.isArrayOf cell (j_ty c.2.1) ∧ cell.vm ≠ .unknown ∧ c.2.2.length ≤ cell.slots.size ∧ cell.slots.size.toInt32 = Int32.ofNat c.2.2.length ∧ ∀ (j : Nat) (v : Value), c.2.2[j]? = some v → cell.slots[j]? = some (j_rv g v)) ∧
    (c.1 = false → c.2.1 = 99 → j_str g ad B U H k c.2.2)
  else
    (c.1 = true → c.2.1 < 6 ∧ H[ad k]? = some (arrV (cA c.2.1) c.2.2.length (fun j => j_rv g (c.2.2.getD j .null)))) ∧
    (c.1 = false → ∃ r : vw_C, cl[c.2.1]? = some r ∧ c.2.2.length = r.2.2 ∧ t_OB (ad k) (D.1 c.2.1) r.2.2 (D.2 c.2.1) H (fun j => j_rv g (c.2.2.getD j .null)))
def j_H (g : Nat → Value) (ad : Nat → Nat) (B : Nat) (D : va_G) (cA : Nat → ClassId) (cl : List vw_C) (U : State) (H : Heap) (hp : List jc) : Prop :=
  9 ≤ hp.length ∧ H.size + 9 = B + hp.length ∧ hp[8]? = some (false, 98, []) ∧ ∀ (k : Nat) (c : jc), hp[k]? = some c → j_in g ad B D cA cl U H k c
section JW
variable {g : Nat → Value} {ad : Nat → Nat} {B : Nat} {D : va_G} {cA : Nat → ClassId} {cl : List vw_C} {U V : State} {H H1 : Heap} {hp : List jc}
theorem j_str.kept {k : Nat} {fs : List Value} (h : j_str g ad B U H k fs) (hq : ∀ q : Nat, q < B → H1[q]? = H[q]?) (hb : ad k < B) : j_str g ad B U H1 k fs := by
  obtain ⟨h1, ⟨cell, h2, h3⟩, h4, h5, h6⟩ := h
  have hk : ∀ a : Nat, a < H.size → ¬ j_A B a → H1[a]? = H[a]? := fun a _ ha => hq a (Nat.lt_of_not_le ha)
  exact ⟨h1, ⟨cell, by rw [hq _ hb]; exact h2, h3⟩, fun v hv => (h4 v hv).kept hk, fun v hv => (h5 v hv).kept hk, h6⟩
theorem j_str.moved {k : Nat} {fs : List Value} (hvm : U.vm.Alike V.vm) (h : j_str g ad B U H k fs) : j_str g ad B V H k fs := by
  obtain ⟨h1, ⟨cell, h2, h3, h3'⟩, h4, h5, h6⟩ := h
  exact ⟨h1, ⟨cell, h2, h3, by rw [hvm.findClass]; exact h3'⟩, fun v hv => va_OF.moved hvm (h4 v hv), fun v hv => va_OF.moved hvm (h5 v hv), h6⟩
theorem j_in.kept {k : Nat} {c : jc} (hG : j_G g ad B) (h : j_in g ad B D cA cl U H k c) (hq : ∀ q : Nat, q < B → H1[q]? = H[q]?) (ho : 9 ≤ k → H1[ad k]? = H[ad k]?) : j_in g ad B D cA cl U H1 k c := by
  unfold j_in at h ⊢
  by_cases hk : k < 9
  · rw [if_pos hk] at h ⊢
    refine ⟨fun e => ?_, fun e1 e2 => ?_⟩
    · obtain ⟨h8, cell, h2⟩ := h.1 e
      exact ⟨h8, cell, by rw [hq _ (hG.2.2.2 k h8)]; exact h2.1, h2.2⟩
    · have h3 := h.2 e1 e2
      exact h3.kept hq (hG.2.2.2 k h3.1)
  · rw [if_neg hk] at h ⊢
    refine ⟨fun e => ⟨(h.1 e).1, by rw [ho (Nat.not_lt.mp hk)]; exact (h.1 e).2⟩, fun e => ?_⟩
    obtain ⟨r, h1, h2, h3⟩ := h.2 e
    exact ⟨r, h1, h2, h3.kept (ho (Nat.not_lt.mp hk))⟩
theorem j_in.moved {k : Nat} {c : jc} (hvm : U.vm.Alike V.vm) (h : j_in g ad B D cA cl U H k c) : j_in g ad B D cA cl V H k c := by
  unfold j_in at h ⊢
  by_cases hk : k < 9
  · rw [if_pos hk] at h ⊢
    refine ⟨fun e => ?_, fun e1 e2 => (h.2 e1 e2).moved hvm⟩
    obtain ⟨h8, cell, h2, h3, h4⟩ := h.1 e
    exact ⟨h8, cell, h2, State.isArrayOf_alike hvm h3, h4⟩
  · rw [if_neg hk] at h ⊢
    exact h
theorem j_H.moved (hvm : U.vm.Alike V.vm) (h : j_H g ad B D cA cl U H hp) : j_H g ad B D cA cl V H hp :=
  ⟨h.1, h.2.1, h.2.2.1, fun k c hk => (h.2.2.2 k c hk).moved hvm⟩
/-- a cell is changed -/
theorem j_H.put {a : Nat} {c0 c : jc} (hG : j_G g ad B) (h : j_H g ad B D cA cl U H hp) (h0 : hp[a]? = some c0) (h9 : 9 ≤ a) (hz : H1.size = H.size) (hq : ∀ q : Nat, q ≠ ad a → H1[q]? = H[q]?) (hc : j_in g ad B D cA cl U H1 a c) : j_H g ad B D cA cl U H1 (j_set c hp a) := by
  obtain ⟨h1, h2, h3, h4⟩ := h
  have hl := (List.getElem?_eq_some_iff.mp h0).1
  have haB : B ≤ ad a := by rw [hG.2.2.1 a h9]; omega
  rw [j_set_eq]
  refine ⟨by rw [List.length_set]; exact h1, by rw [List.length_set, hz]; exact h2, by rw [List.getElem?_set_ne (by omega)]; exact h3, fun k d hk => ?_⟩
  by_cases hka : k = a
  · subst hka
    rw [List.getElem?_set_self hl] at hk
    cases hk
    exact hc
  · rw [List.getElem?_set_ne (Ne.symm hka)] at hk
    refine (h4 k d hk).kept hG (fun q hqB => hq q (by omega)) (fun hk9 => hq _ ?_)
    rw [hG.2.2.1 a h9, hG.2.2.1 k hk9]
    omega
/-- a cell is made -/
theorem j_H.push {c : jc} (hG : j_G g ad B) (h : j_H g ad B D cA cl U H hp) (hz : H1.size = H.size + 1) (hq : ∀ q : Nat, q < H.size → H1[q]? = H[q]?) (hc : j_in g ad B D cA cl U H1 hp.length c) : j_H g ad B D cA cl U H1 (hp ++ [c]) := by
  obtain ⟨h1, h2, h3, h4⟩ := h
  refine ⟨by simp; omega, by rw [hz]; simp; omega, by rw [List.getElem?_append_left (by omega)]; exact h3, fun k d hk => ?_⟩
  by_cases hkl : k < hp.length
  · rw [List.getElem?_append_left hkl] at hk
    refine (h4 k d hk).kept hG (fun q hqB => hq q (by omega)) (fun hk9 => hq _ ?_)
    rw [hG.2.2.1 k hk9]
    omega
  · rw [List.getElem?_append_right (by omega)] at hk
    have hz0 : k - hp.length < 1 := (List.getElem?_eq_some_iff.mp hk).1
    have hk0 : k = hp.length := by omega
    subst hk0
    rw [Nat.sub_self] at hk
    cases hk
    exact hc
theorem j_H_ad (hG : j_G g ad B) (h : j_H g ad B D cA cl U H hp) : ad hp.length = H.size := by
  rw [hG.2.2.1 _ h.1]
  have := h.2.1
  have := h.1
  omega
theorem j_G.ref (hG : j_G g ad B) {k : Nat} (h : 9 ≤ k) : g k = .ref (ad k) := hG.1 k (by omega)
theorem j_G.cat (hG : j_G g ad B) (k : Nat) : (g k).category = 1 := by
  by_cases h : k = 8
  · subst h
    rcases hG.2.1 with e | ⟨a, e⟩ <;> rw [e] <;> rfl
  · rw [hG.1 k h]
    rfl
theorem j_rv_cat (hG : j_G g ad B) (v : Value) : (j_rv g v).category = v.category := by
  cases v with
  | ref k => exact hG.cat k
  | _ => rfl
theorem j_cats (hG : j_G g ad B) (st : List Value) : ((st.map (j_rv g)).map fun v => v.category) = st.map fun v => v.category := by
  rw [List.map_map]
  exact List.map_congr_left (fun v _ => j_rv_cat hG v)
theorem j_cat1_eq (hG : j_G g ad B) {v : Value} (h : j_cat1 v = true) : (j_rv g v).category = 1 := by
  rw [j_rv_cat hG]
  cases v <;> first | rfl | cases h
theorem j_put1_sl (hG : j_G g ad B) (lv : jL) (i : Nat) (v : Value) : j_sl g (j_put1 lv i v) = (i, j_rv g v) :: (j_sl g lv).filter (fun q => !(q.1 == i) && !(q.1 + 1 == i && q.2.category == 2)) := by
  unfold j_sl j_put1
  rw [List.map_cons, List.filter_map]
  congr 2
  apply List.filter_congr
  intro q _
  simp [Function.comp, j_rv_cat hG]
theorem j_put2_sl (hG : j_G g ad B) (lv : jL) (i : Nat) (v : Value) : j_sl g (j_put2 lv i v) = (i, j_rv g v) :: (j_sl g lv).filter (fun q => !(q.1 == i) && (!(q.1 == i + 1) && !(q.1 + 1 == i && q.2.category == 2))) := by
  unfold j_sl j_put2
  rw [List.map_cons, List.filter_map]
  congr 2
  apply List.filter_congr
  intro q _
  simp [Function.comp, j_rv_cat hG]
theorem j_at_some {a : Nat} {ts : List Nat} {l : List Value} (h : j_at hp a ts = some l) : ∃ t, hp[a]? = some (true, t, l) ∧ t ∈ ts := by
  unfold j_at at h
  rw [j_nth_eq] at h
  split at h
  · rename_i t l' he
    cases hb : ts.any (fun z => Nat.beq z t) with
    | false => rw [hb] at h; cases h
    | true =>
      rw [hb] at h
      cases h
      obtain ⟨z, hz, e⟩ := List.any_eq_true.mp hb
      exact ⟨t, he, by rw [← Nat.eq_of_beq_eq_true e]; exact hz⟩
  · cases h
/-- an array as the large machine sees it -/
theorem j_arr (hG : j_G g ad B) (hK : va_K D cl (j_tys cA) U) (h : j_H g ad B D cA cl U H hp) {a t : Nat} {l : List Value} (hn : hp[a]? = some (true, t, l)) : ∃ cell : Cell, g a = .ref (ad a) ∧ H[ad a]? = some cell ∧ U.isArrayOf cell (j_ty t) ∧ cell.vm ≠ .unknown ∧ l.length ≤ cell.slots.size ∧ cell.slots.size.toInt32 = Int32.ofNat l.length ∧ ∀ (j : Nat) (v : Value), l[j]? = some v → cell.slots[j]? = some (j_rv g v) := by
  have h1 := h.2.2.2 a _ hn
  have h8 : a ≠ 8 := fun e => by rw [e, h.2.2.1] at hn; cases hn
  unfold j_in at h1
  by_cases hk : a < 9
  · rw [if_pos hk] at h1
    obtain ⟨-, cell, h2⟩ := h1.1 rfl
    exact ⟨cell, hG.1 a h8, h2⟩
  · rw [if_neg hk] at h1
    obtain ⟨ht, h2⟩ := h1.1 rfl
    refine ⟨_, hG.1 a h8, h2, And.intro ((hK.2 t _ (j_tys_at cA ht)).1 _ _) ?_⟩
    refine ⟨(fun e => by cases e), (by rw [arrV_size]; exact Nat.le_refl _), (by rw [arrV_size]), fun j v hv => ?_⟩
    have hj := (List.getElem?_eq_some_iff.mp hv).1
    rw [arrV_read _ _ hj]
    simp [List.getD_eq_getElem?_getD, hv]
/-- a store into a new array -/
theorem j_stored (hG : j_G g ad B) (h : j_H g ad B D cA cl U H hp) {a t i : Nat} {l : List Value} {v : Value} (hn : hp[a]? = some (true, t, l)) (h9 : 9 ≤ a) (hi : i < l.length) (hz : H1.size = H.size) (hq : ∀ q : Nat, q ≠ ad a → H1[q]? = H[q]?)
    (he : ∀ cell : Cell, H[ad a]? = some cell → H1[ad a]? = some (cell.setSlot i (j_rv g v))) : j_H g ad B D cA cl U H1 (j_set (true, t, j_set v l i) hp a) := by
  refine h.put hG hn h9 hz hq ?_
  have h1 := h.2.2.2 a _ hn
  unfold j_in at h1 ⊢
  rw [if_neg (by omega)] at h1 ⊢
  obtain ⟨ht, h2⟩ := h1.1 rfl
  refine ⟨fun _ => ⟨ht, ?_⟩, (fun e => by cases e)⟩
  rw [he _ h2, arrV_store, j_set_eq]
  congr 1
  simp only [List.length_set]
  congr 1
  funext j
  unfold updV
  by_cases hj : j = i
  · subst hj
    simp [List.getD_eq_getElem?_getD, hi]
  · simp [List.getD_eq_getElem?_getD, List.getElem?_set_ne (Ne.symm hj), hj]
end JW
theorem j_go_some {pc len : Nat} {lv : jL} {hp : List jc} {r : Option (List Value)} {X : jX} (h : j_go pc len lv hp r = some X) : ∃ st', r = some st' ∧ X = (pc + len, lv, st', hp, 0, 0) := by
  cases r with
  | none => cases h
  | some q => exact ⟨q, rfl, (Option.some.inj h).symm⟩
theorem j_ii_some {f : Int32 → Int32 → Int32} {st q : List Value} (h : j_ii f st = some q) : ∃ x y r, st = .int y :: .int x :: r ∧ q = .int (f x y) :: r := by
  unfold j_ii at h
  split at h
  · exact ⟨_, _, _, rfl, (Option.some.inj h).symm⟩
  · cases h
theorem j_id_some {f : Int32 → Int32 → Int32} {st q : List Value} (h : j_id f st = some q) : ∃ x y r, st = .int y :: .int x :: r ∧ q = .int (f x y) :: r ∧ ¬ y = 0 := by
  unfold j_id at h
  split at h
  · split at h
    · cases h
    · exact ⟨_, _, _, rfl, (Option.some.inj h).symm, by assumption⟩
  · cases h
theorem j_ll_some {f : Int64 → Int64 → Int64} {st q : List Value} (h : j_ll f st = some q) : ∃ x y r, st = .long y :: .long x :: r ∧ q = .long (f x y) :: r := by
  unfold j_ll at h
  split at h
  · exact ⟨_, _, _, rfl, (Option.some.inj h).symm⟩
  · cases h
theorem j_ld_some {f : Int64 → Int64 → Int64} {st q : List Value} (h : j_ld f st = some q) : ∃ x y r, st = .long y :: .long x :: r ∧ q = .long (f x y) :: r ∧ ¬ y = 0 := by
  unfold j_ld at h
  split at h
  · split at h
    · cases h
    · exact ⟨_, _, _, rfl, (Option.some.inj h).symm, by assumption⟩
  · cases h
theorem j_li_some {f : Int64 → Int32 → Int64} {st q : List Value} (h : j_li f st = some q) : ∃ x y r, st = .int y :: .long x :: r ∧ q = .long (f x y) :: r := by
  unfold j_li at h
  split at h
  · exact ⟨_, _, _, rfl, (Option.some.inj h).symm⟩
  · cases h
theorem j_ald_some {hp : List jc} {ts : List Nat} {st q : List Value} (h : j_ald hp ts st = some q) : ∃ i a r t l v, st = .int i :: .ref a :: r ∧ hp[a]? = some (true, t, l) ∧ t ∈ ts ∧ ¬ i < 0 ∧ l[i.toNatClampNeg]? = some v ∧ q = v :: r := by
  unfold j_ald at h
  split at h
  · rename_i i a r
    split at h
    · rename_i l hl
      split at h
      · cases h
      · rename_i hi
        split at h
        · rename_i v hv
          obtain ⟨t, h1, h2⟩ := j_at_some hl
          rw [j_nth_eq] at hv
          exact ⟨i, a, r, t, l, v, rfl, h1, h2, hi, hv, (Option.some.inj h).symm⟩
        · cases h
    · cases h
  · cases h
theorem j_ast_some {hp hp' : List jc} {a t : Nat} {i : Int32} {v : Value} (h : j_ast hp a t i v = some hp') : ∃ l, hp[a]? = some (true, t, l) ∧ 9 ≤ a ∧ ¬ i < 0 ∧ i.toNatClampNeg < l.length ∧ hp' = j_set (true, t, j_set v l i.toNatClampNeg) hp a := by
  unfold j_ast at h
  cases h9 : Nat.ble 9 a with
  | false => rw [h9] at h; cases h
  | true =>
    rw [h9] at h
    have h' : (match j_at hp a [t] with
      | some l => if i < 0 then none else cond (Nat.blt i.toNatClampNeg l.length) (some (j_set (true, t, j_set v l i.toNatClampNeg) hp a)) none
      | none => none) = some hp' := h
    split at h'
    · rename_i l hl
      split at h'
      · cases h'
      · rename_i hi
        cases hb : Nat.blt i.toNatClampNeg l.length with
        | false => rw [hb] at h'; cases h'
        | true =>
          rw [hb] at h'
          obtain ⟨t', h1, h2⟩ := j_at_some hl
          have e : t' = t := by simpa using h2
          subst e
          exact ⟨l, h1, Nat.le_of_ble_eq_true h9, hi, Nat.le_of_ble_eq_true hb, (Option.some.inj h').symm⟩
    · cases h'
end
section
/-! THE SMALL MACHINE'S STEP AGAINST THE LARGE ONE'S ROWS. -/
abbrev jK : Type := List (String × Nat × String × Value) × List Cond
def j_len : Instr → Nat
  | .bipush _ | .iload _ | .lload _ | .aload _ | .istore _ | .lstore _ | .astore _ | .newarray _ | .ldc _ => 2
  | .sipush _ | .iinc _ _ | .ifCond _ _ | .if_icmp _ _ | .goto _ | .getfield _ | .putfield _ | .getstatic _ | .ldc2_w _ | .new _ | .anewarray _ | .invokevirtual _ | .invokespecial _ | .invokestatic _ => 3
  | _ => 1
def j_sf : Nat → String × String := fun i => match i with | 0 => ("value", "[B") | _ => ("coder", "B")
/-- what an entry of the code needs of the tables; 'own', 'nm': of the method that holds it; 'cl': the kinds of objects; 'TW': the words; 'zs': statics; 'ks': string constants -/
def j_lk (own nm : String) (cl : List vw_C) (TW : List Cond) (zs : List (String × String × String × Value)) (ks : jK) (pc : Nat) (e : jE) : Prop := match e.1 with
  | .ifCond _ off => (pc : Int) + off = (e.2.2.1 : Int)
  | .if_icmp _ off => (pc : Int) + off = (e.2.2.1 : Int)
  | .goto off => (pc : Int) + off = (e.2.2.1 : Int)
  | .lookupswitch _ ps => (ps.toList.zip (ps.toList.drop 1)).all (fun (a, next) => a.1 < next.1) = true
  | .getfield i => (e.2.2.1 = 99 ∧ e.2.2.2.1 < 2 ∧ Cond.fieldLink own i "java/lang/String" (j_sf e.2.2.2.1).1 (j_sf e.2.2.2.1).2 ∈ TW) ∨ (¬ e.2.2.1 = 99 ∧ ∃ (C : String) (T : u_T) (N : Nat), cl[e.2.2.1]? = some (C, T, N) ∧ e.2.2.2.1 < N ∧ (Cond.fieldLink own i (T e.2.2.2.1).1 (T e.2.2.2.1).2.1 (T e.2.2.2.1).2.2.1 ∈ TW ∨ ∃ host, Cond.fieldLinkNest own i (T e.2.2.2.1).1 (T e.2.2.2.1).2.1 (T e.2.2.2.1).2.2.1 host ∈ ks.2))
  | .putfield i => ¬ e.2.2.1 = 99 ∧ ∃ (C : String) (T : u_T) (N : Nat), cl[e.2.2.1]? = some (C, T, N) ∧ e.2.2.2.1 < N ∧ Cond.fieldLink own i (T e.2.2.2.1).1 (T e.2.2.2.1).2.1 (T e.2.2.2.1).2.2.1 ∈ TW ∧ parseFieldDescriptor (T e.2.2.2.1).2.2.1 = some e.2.2.2.2.2 ∧ ((T e.2.2.2.1).2.2.2 = true → nm = "<init>" ∧ (T e.2.2.2.1).1 = own)
  | .getstatic i => ∃ C n d, (C, n, d, e.2.2.2.2.1) ∈ zs ∧ Cond.fieldLink own i C n d ∈ TW
  | .ldc2_w i => ∃ x, e.2.2.2.2.1 = .long x ∧ Cond.constantLong own i x ∈ TW
  | .ldc i => ∃ tx, (own, i, tx, e.2.2.2.2.1) ∈ ks.1
  | .new i => ∃ (C : String) (T : u_T) (N : Nat), cl[e.2.2.1]? = some (C, T, N) ∧ Cond.classLink own i C ∈ TW ∧ Cond.instantiable C N ∈ TW ∧ Cond.initialized C ∈ TW
  | .newarray t => newarray.typeOf t = j_ty e.2.2.1 ∧ e.2.2.1 < 4 ∧ Cond.arrayClass (j_ty e.2.2.1) ∈ TW ∧ e.2.2.2.2.1 = defaultValue (j_ty e.2.2.1)
  | .anewarray i => Cond.classLink own i "HundredWords$Row" ∈ TW ∧ Cond.arrayOver (.object "HundredWords$Row") ∈ ks.2
  | _ => True
/-- what is said once of each kind of object: its words, its fields' types, their names apart, its cells when made -/
def j_kd (cl : List vw_C) (TW : List Cond) (df : Nat → List Value) : Prop := ∀ (ci : Nat) (C : String) (T : u_T) (N : Nat), cl[ci]? = some (C, T, N) →
  (∀ x ∈ u_ws C T N, x ∈ TW) ∧ (∃ ty0 : Nat → FieldType, (∀ k, k < N → parseFieldDescriptor (T k).2.2.1 = some (ty0 k)) ∧ (df ci).length = N ∧ ∀ k, k < N → (df ci)[k]? = some (defaultValue (ty0 k))) ∧ (∀ a, a < N → ∀ b, b < N → a ≠ b → (T a).2.1 ≠ (T b).2.1)
def j_St (g : Nat → Value) (B : Nat) (zs : List (String × String × String × Value)) (U : State) (H : Heap) : Prop := ∀ q ∈ zs, va_Z q.1 q.2.1 q.2.2.1 (j_rv g q.2.2.2) (j_A B) U H
def j_isN : Cond → Bool | .fieldLinkNest _ _ _ _ _ _ => true | .methodLinkNest _ _ _ _ => true | .arrayOver (.object _) => true | _ => false
def j_Ks (g : Nat → Value) (ks : jK) (U : State) : Prop := (∀ q ∈ ks.1, ∃ a : Nat, j_rv g q.2.2.2 = .ref a ∧ vk_R q.1 q.2.1 q.2.2.1 a U) ∧ ∀ x ∈ ks.2, j_isN x = true ∧ va_Nw x U
/-- where a walk stands: the machine, the code, the tables -/
def j_Cx (g : Nat → Value) (ad : Nat → Nat) (B : Nat) (D : va_G) (cA : Nat → ClassId) (cl : List vw_C) (TW : List Cond) (zs : List (String × String × String × Value)) (ks : jK) (own nm : String) (cc : ByteArray) (nL : Nat) (p : Program) (s : State) (m : MethodId) (args : Array Value) (meth : Method) (c : Code) : Prop :=
  j_G g ad B ∧ p.tables.exec = Jvm.exec ∧ c.code = cc ∧ c.maxLocals = nL ∧ s.vm.findClass own = some m.cls ∧ (∀ x ∈ TW, x.before args s = true) ∧ meth.locks = false ∧ (nm = "<init>" → meth.name = "<init>") ∧ va_K D cl (j_tys cA) s ∧ j_St g B zs s s.heap ∧ j_Ks g ks s ∧ B ≤ s.heap.size
theorem j_rv_fit (g : Nat → Value) (ad : Nat → Nat) (B : Nat) (hG : j_G g ad B) {ty : FieldType} {v : Value} (h : j_fit ty v = true) : narrow ty (j_rv g v) = j_rv g v ∧ fits ty (j_rv g v) = true := by
  have hg : ∀ k, g k = .null ∨ ∃ a, g k = .ref a := fun k => by
    by_cases e : k = 8
    · rw [e]; exact hG.2.1
    · exact Or.inr ⟨_, hG.1 k e⟩
  cases v with
  | int x =>
    cases ty with
    | int => exact ⟨rfl, rfl⟩
    | boolean =>
      simp only [j_fit, Bool.or_eq_true, decide_eq_true_eq] at h
      rcases h with rfl | rfl <;> exact ⟨rfl, rfl⟩
    | byte =>
      simp only [j_fit, Bool.and_eq_true, decide_eq_true_eq] at h
      exact ⟨by show Value.int x.toInt8.toInt32 = .int x; rw [h.1.1], by simp [j_rv, fits, h.1.2, h.2]⟩
    | char =>
      simp only [j_fit, Bool.and_eq_true, decide_eq_true_eq] at h
      refine ⟨?_, by simp [j_rv, fits, h.1.2, h.2]⟩
      show Value.int _ = Value.int x
      congr 1
      first | exact h.1.1 | (rw [← h.1.1]; first | rfl | simp) | (have := h.1.1; simp_all)
    | _ => cases h
  | long x =>
    cases ty <;> first | exact ⟨rfl, rfl⟩ | cases h
  | ref k =>
    cases ty with
    | object n =>
      show narrow (.object n) (g k) = g k ∧ fits (.object n) (g k) = true
      rcases hg k with e | ⟨a, e⟩ <;> rw [e] <;> exact ⟨rfl, rfl⟩
    | array n =>
      show narrow (.array n) (g k) = g k ∧ fits (.array n) (g k) = true
      rcases hg k with e | ⟨a, e⟩ <;> rw [e] <;> exact ⟨rfl, rfl⟩
    | _ => cases h
  | _ => cases ty <;> cases h
theorem arrV_congr {cI : ClassId} {N : Nat} {f h : Nat → Value} (e : ∀ j, j < N → f j = h j) : arrV cI N f = arrV cI N h := by
  unfold arrV
  congr 1
  apply Array.ext
  · simp
  · intro i h1 h2
    simp only [Array.getElem_ofFn]
    exact e i (by simpa using h1)
section JS
variable {g : Nat → Value} {ad : Nat → Nat} {B : Nat} {D : va_G} {cA : Nat → ClassId} {cl : List vw_C} {TW : List Cond} {zs : List (String × String × String × Value)} {ks : jK} {own nm : String} {cc : ByteArray} {nL : Nat} {df : Nat → List Value}
variable {p : Program} {l : Launch} {e : Env} {R : Room} {s : State} {m : MethodId} {args : Array Value} {below : List Frame} {meth : Method} {c : Code} {H : Heap} {locs : List Loc} {cells slots : Nat} {Q : State → Prop}
variable {pc pc' : Nat} {len l1 l2 dc ds : Nat} {val : Value} {ty : FieldType} {lv lv' : jL} {st st' : List Value} {hp hp' : List jc} {ls : Array Slot}
theorem j_s_iconst {n : Int} (hC : j_Cx g ad B D cA cl TW zs ks own nm cc nL p s m args meth c) (hkd : j_kd cl TW df ∧ cl[99]? = none ∧ ∀ rr : vw_C, cl[4]? = some rr → rr.1 = "HundredWords$Row") (hd : decode cc pc = .ok (.iconst n, len)) (hlen : len = j_len (.iconst n)) (hlk : j_lk own nm cl TW zs ks pc (.iconst n, len, l1, l2, val, ty)) (h : jstep df nL pc (.iconst n, len, l1, l2, val, ty) lv st hp = some (pc', lv', st', hp', dc, ds)) (hl : lv_has ls nL (j_sl g lv)) (hH : j_H g ad B D cA cl s H hp) (hS : va_S (j_A B) s.heap H locs) (hc : cells + dc ≤ R.cells) (hs : slots + ds ≤ R.slots)
    (kk : ∀ (H' : Heap) (locs' : List Loc) (ls' : Array Slot), lv_has ls' nL (j_sl g lv') → j_H g ad B D cA cl s H' hp' → va_S (j_A B) s.heap H' locs' → W p l e R s m args below meth c H' locs' (cells + dc) (slots + ds) Q (F0 m pc' ls' (st'.map (j_rv g)))) : W p l e R s m args below meth c H locs cells slots Q (F0 m pc ls (st.map (j_rv g))) := by
  obtain ⟨hG, hx, hb, hml, hown, hts, hlocks, hname, hK, hSt, hKs, hBs⟩ := hC
  subst hlen
  have h : j_go pc 1 lv hp (some (.int (Int32.ofInt n) :: st)) = some (pc', lv', st', hp', dc, ds) := h
  obtain ⟨q, hq, hX⟩ := j_go_some h
  cases hq
  cases hX
  exact lv_iconst hx hb hd rfl (kk H locs ls hl hH hS)
theorem j_s_bipush {n : Int} (hC : j_Cx g ad B D cA cl TW zs ks own nm cc nL p s m args meth c) (hkd : j_kd cl TW df ∧ cl[99]? = none ∧ ∀ rr : vw_C, cl[4]? = some rr → rr.1 = "HundredWords$Row") (hd : decode cc pc = .ok (.bipush n, len)) (hlen : len = j_len (.bipush n)) (hlk : j_lk own nm cl TW zs ks pc (.bipush n, len, l1, l2, val, ty)) (h : jstep df nL pc (.bipush n, len, l1, l2, val, ty) lv st hp = some (pc', lv', st', hp', dc, ds)) (hl : lv_has ls nL (j_sl g lv)) (hH : j_H g ad B D cA cl s H hp) (hS : va_S (j_A B) s.heap H locs) (hc : cells + dc ≤ R.cells) (hs : slots + ds ≤ R.slots)
    (kk : ∀ (H' : Heap) (locs' : List Loc) (ls' : Array Slot), lv_has ls' nL (j_sl g lv') → j_H g ad B D cA cl s H' hp' → va_S (j_A B) s.heap H' locs' → W p l e R s m args below meth c H' locs' (cells + dc) (slots + ds) Q (F0 m pc' ls' (st'.map (j_rv g)))) : W p l e R s m args below meth c H locs cells slots Q (F0 m pc ls (st.map (j_rv g))) := by
  obtain ⟨hG, hx, hb, hml, hown, hts, hlocks, hname, hK, hSt, hKs, hBs⟩ := hC
  subst hlen
  have h : j_go pc 2 lv hp (some (.int (Int8.ofInt n).toInt32 :: st)) = some (pc', lv', st', hp', dc, ds) := h
  obtain ⟨q, hq, hX⟩ := j_go_some h
  cases hq
  cases hX
  exact lv_bipush hx hb hd rfl (kk H locs ls hl hH hS)
theorem j_s_sipush {n : Int} (hC : j_Cx g ad B D cA cl TW zs ks own nm cc nL p s m args meth c) (hkd : j_kd cl TW df ∧ cl[99]? = none ∧ ∀ rr : vw_C, cl[4]? = some rr → rr.1 = "HundredWords$Row") (hd : decode cc pc = .ok (.sipush n, len)) (hlen : len = j_len (.sipush n)) (hlk : j_lk own nm cl TW zs ks pc (.sipush n, len, l1, l2, val, ty)) (h : jstep df nL pc (.sipush n, len, l1, l2, val, ty) lv st hp = some (pc', lv', st', hp', dc, ds)) (hl : lv_has ls nL (j_sl g lv)) (hH : j_H g ad B D cA cl s H hp) (hS : va_S (j_A B) s.heap H locs) (hc : cells + dc ≤ R.cells) (hs : slots + ds ≤ R.slots)
    (kk : ∀ (H' : Heap) (locs' : List Loc) (ls' : Array Slot), lv_has ls' nL (j_sl g lv') → j_H g ad B D cA cl s H' hp' → va_S (j_A B) s.heap H' locs' → W p l e R s m args below meth c H' locs' (cells + dc) (slots + ds) Q (F0 m pc' ls' (st'.map (j_rv g)))) : W p l e R s m args below meth c H locs cells slots Q (F0 m pc ls (st.map (j_rv g))) := by
  obtain ⟨hG, hx, hb, hml, hown, hts, hlocks, hname, hK, hSt, hKs, hBs⟩ := hC
  subst hlen
  have h : j_go pc 3 lv hp (some (.int (Int16.ofInt n).toInt32 :: st)) = some (pc', lv', st', hp', dc, ds) := h
  obtain ⟨q, hq, hX⟩ := j_go_some h
  cases hq
  cases hX
  exact lv_sipush hx hb hd rfl (kk H locs ls hl hH hS)
theorem j_s_lconst {n : Fin 2} (hC : j_Cx g ad B D cA cl TW zs ks own nm cc nL p s m args meth c) (hkd : j_kd cl TW df ∧ cl[99]? = none ∧ ∀ rr : vw_C, cl[4]? = some rr → rr.1 = "HundredWords$Row") (hd : decode cc pc = .ok (.lconst n, len)) (hlen : len = j_len (.lconst n)) (hlk : j_lk own nm cl TW zs ks pc (.lconst n, len, l1, l2, val, ty)) (h : jstep df nL pc (.lconst n, len, l1, l2, val, ty) lv st hp = some (pc', lv', st', hp', dc, ds)) (hl : lv_has ls nL (j_sl g lv)) (hH : j_H g ad B D cA cl s H hp) (hS : va_S (j_A B) s.heap H locs) (hc : cells + dc ≤ R.cells) (hs : slots + ds ≤ R.slots)
    (kk : ∀ (H' : Heap) (locs' : List Loc) (ls' : Array Slot), lv_has ls' nL (j_sl g lv') → j_H g ad B D cA cl s H' hp' → va_S (j_A B) s.heap H' locs' → W p l e R s m args below meth c H' locs' (cells + dc) (slots + ds) Q (F0 m pc' ls' (st'.map (j_rv g)))) : W p l e R s m args below meth c H locs cells slots Q (F0 m pc ls (st.map (j_rv g))) := by
  obtain ⟨hG, hx, hb, hml, hown, hts, hlocks, hname, hK, hSt, hKs, hBs⟩ := hC
  subst hlen
  have h : j_go pc 1 lv hp (some (.long (Int64.ofNat (n : Nat)) :: st)) = some (pc', lv', st', hp', dc, ds) := h
  obtain ⟨q, hq, hX⟩ := j_go_some h
  cases hq
  cases hX
  exact lv_lconst hx hb hd rfl (kk H locs ls hl hH hS)
theorem j_s_iload_n {n : Fin 4} (hC : j_Cx g ad B D cA cl TW zs ks own nm cc nL p s m args meth c) (hkd : j_kd cl TW df ∧ cl[99]? = none ∧ ∀ rr : vw_C, cl[4]? = some rr → rr.1 = "HundredWords$Row") (hd : decode cc pc = .ok (.iload_n n, len)) (hlen : len = j_len (.iload_n n)) (hlk : j_lk own nm cl TW zs ks pc (.iload_n n, len, l1, l2, val, ty)) (h : jstep df nL pc (.iload_n n, len, l1, l2, val, ty) lv st hp = some (pc', lv', st', hp', dc, ds)) (hl : lv_has ls nL (j_sl g lv)) (hH : j_H g ad B D cA cl s H hp) (hS : va_S (j_A B) s.heap H locs) (hc : cells + dc ≤ R.cells) (hs : slots + ds ≤ R.slots)
    (kk : ∀ (H' : Heap) (locs' : List Loc) (ls' : Array Slot), lv_has ls' nL (j_sl g lv') → j_H g ad B D cA cl s H' hp' → va_S (j_A B) s.heap H' locs' → W p l e R s m args below meth c H' locs' (cells + dc) (slots + ds) Q (F0 m pc' ls' (st'.map (j_rv g)))) : W p l e R s m args below meth c H locs cells slots Q (F0 m pc ls (st.map (j_rv g))) := by
  obtain ⟨hG, hx, hb, hml, hown, hts, hlocks, hname, hK, hSt, hKs, hBs⟩ := hC
  subst hlen
  obtain ⟨q, hq, hX⟩ := j_go_some h
  split at hq
  · rename_i x hj
    cases hq
    cases hX
    exact lv_iload_n hx hb hd rfl (j_get_ls hl hj) (kk H locs ls hl hH hS)
  · cases hq
theorem j_s_iload {n : Nat} (hC : j_Cx g ad B D cA cl TW zs ks own nm cc nL p s m args meth c) (hkd : j_kd cl TW df ∧ cl[99]? = none ∧ ∀ rr : vw_C, cl[4]? = some rr → rr.1 = "HundredWords$Row") (hd : decode cc pc = .ok (.iload n, len)) (hlen : len = j_len (.iload n)) (hlk : j_lk own nm cl TW zs ks pc (.iload n, len, l1, l2, val, ty)) (h : jstep df nL pc (.iload n, len, l1, l2, val, ty) lv st hp = some (pc', lv', st', hp', dc, ds)) (hl : lv_has ls nL (j_sl g lv)) (hH : j_H g ad B D cA cl s H hp) (hS : va_S (j_A B) s.heap H locs) (hc : cells + dc ≤ R.cells) (hs : slots + ds ≤ R.slots)
    (kk : ∀ (H' : Heap) (locs' : List Loc) (ls' : Array Slot), lv_has ls' nL (j_sl g lv') → j_H g ad B D cA cl s H' hp' → va_S (j_A B) s.heap H' locs' → W p l e R s m args below meth c H' locs' (cells + dc) (slots + ds) Q (F0 m pc' ls' (st'.map (j_rv g)))) : W p l e R s m args below meth c H locs cells slots Q (F0 m pc ls (st.map (j_rv g))) := by
  obtain ⟨hG, hx, hb, hml, hown, hts, hlocks, hname, hK, hSt, hKs, hBs⟩ := hC
  subst hlen
  obtain ⟨q, hq, hX⟩ := j_go_some h
  split at hq
  · rename_i x hj
    cases hq
    cases hX
    exact lv_iload hx hb hd (j_get_ls hl hj) (kk H locs ls hl hH hS)
  · cases hq
theorem j_s_lload_n {n : Fin 4} (hC : j_Cx g ad B D cA cl TW zs ks own nm cc nL p s m args meth c) (hkd : j_kd cl TW df ∧ cl[99]? = none ∧ ∀ rr : vw_C, cl[4]? = some rr → rr.1 = "HundredWords$Row") (hd : decode cc pc = .ok (.lload_n n, len)) (hlen : len = j_len (.lload_n n)) (hlk : j_lk own nm cl TW zs ks pc (.lload_n n, len, l1, l2, val, ty)) (h : jstep df nL pc (.lload_n n, len, l1, l2, val, ty) lv st hp = some (pc', lv', st', hp', dc, ds)) (hl : lv_has ls nL (j_sl g lv)) (hH : j_H g ad B D cA cl s H hp) (hS : va_S (j_A B) s.heap H locs) (hc : cells + dc ≤ R.cells) (hs : slots + ds ≤ R.slots)
    (kk : ∀ (H' : Heap) (locs' : List Loc) (ls' : Array Slot), lv_has ls' nL (j_sl g lv') → j_H g ad B D cA cl s H' hp' → va_S (j_A B) s.heap H' locs' → W p l e R s m args below meth c H' locs' (cells + dc) (slots + ds) Q (F0 m pc' ls' (st'.map (j_rv g)))) : W p l e R s m args below meth c H locs cells slots Q (F0 m pc ls (st.map (j_rv g))) := by
  obtain ⟨hG, hx, hb, hml, hown, hts, hlocks, hname, hK, hSt, hKs, hBs⟩ := hC
  subst hlen
  obtain ⟨q, hq, hX⟩ := j_go_some h
  split at hq
  · rename_i x hj
    cases hq
    cases hX
    exact lv_lload_n hx hb hd rfl (j_get_ls hl hj) (kk H locs ls hl hH hS)
  · cases hq
theorem j_s_lload {n : Nat} (hC : j_Cx g ad B D cA cl TW zs ks own nm cc nL p s m args meth c) (hkd : j_kd cl TW df ∧ cl[99]? = none ∧ ∀ rr : vw_C, cl[4]? = some rr → rr.1 = "HundredWords$Row") (hd : decode cc pc = .ok (.lload n, len)) (hlen : len = j_len (.lload n)) (hlk : j_lk own nm cl TW zs ks pc (.lload n, len, l1, l2, val, ty)) (h : jstep df nL pc (.lload n, len, l1, l2, val, ty) lv st hp = some (pc', lv', st', hp', dc, ds)) (hl : lv_has ls nL (j_sl g lv)) (hH : j_H g ad B D cA cl s H hp) (hS : va_S (j_A B) s.heap H locs) (hc : cells + dc ≤ R.cells) (hs : slots + ds ≤ R.slots)
    (kk : ∀ (H' : Heap) (locs' : List Loc) (ls' : Array Slot), lv_has ls' nL (j_sl g lv') → j_H g ad B D cA cl s H' hp' → va_S (j_A B) s.heap H' locs' → W p l e R s m args below meth c H' locs' (cells + dc) (slots + ds) Q (F0 m pc' ls' (st'.map (j_rv g)))) : W p l e R s m args below meth c H locs cells slots Q (F0 m pc ls (st.map (j_rv g))) := by
  obtain ⟨hG, hx, hb, hml, hown, hts, hlocks, hname, hK, hSt, hKs, hBs⟩ := hC
  subst hlen
  obtain ⟨q, hq, hX⟩ := j_go_some h
  split at hq
  · rename_i x hj
    cases hq
    cases hX
    exact lv_lload hx hb hd (j_get_ls hl hj) (kk H locs ls hl hH hS)
  · cases hq
theorem j_s_aload_n {n : Fin 4} (hC : j_Cx g ad B D cA cl TW zs ks own nm cc nL p s m args meth c) (hkd : j_kd cl TW df ∧ cl[99]? = none ∧ ∀ rr : vw_C, cl[4]? = some rr → rr.1 = "HundredWords$Row") (hd : decode cc pc = .ok (.aload_n n, len)) (hlen : len = j_len (.aload_n n)) (hlk : j_lk own nm cl TW zs ks pc (.aload_n n, len, l1, l2, val, ty)) (h : jstep df nL pc (.aload_n n, len, l1, l2, val, ty) lv st hp = some (pc', lv', st', hp', dc, ds)) (hl : lv_has ls nL (j_sl g lv)) (hH : j_H g ad B D cA cl s H hp) (hS : va_S (j_A B) s.heap H locs) (hc : cells + dc ≤ R.cells) (hs : slots + ds ≤ R.slots)
    (kk : ∀ (H' : Heap) (locs' : List Loc) (ls' : Array Slot), lv_has ls' nL (j_sl g lv') → j_H g ad B D cA cl s H' hp' → va_S (j_A B) s.heap H' locs' → W p l e R s m args below meth c H' locs' (cells + dc) (slots + ds) Q (F0 m pc' ls' (st'.map (j_rv g)))) : W p l e R s m args below meth c H locs cells slots Q (F0 m pc ls (st.map (j_rv g))) := by
  obtain ⟨hG, hx, hb, hml, hown, hts, hlocks, hname, hK, hSt, hKs, hBs⟩ := hC
  subst hlen
  obtain ⟨q, hq, hX⟩ := j_go_some h
  split at hq
  · rename_i x hj
    cases hq
    cases hX
    have hj' := j_get_ls hl hj
    have k2 := (kk H locs ls hl hH hS)
    change ls[_]? = some (Slot.val (g x)) at hj'
    change W p l e R s m args below meth c H locs _ _ Q (F0 m _ ls (g x :: st.map (j_rv g))) at k2
    have hg8 : g x = .null ∨ ∃ a, g x = .ref a := by
      by_cases h8 : x = 8
      · rw [h8]; exact hG.2.1
      · exact Or.inr ⟨_, hG.1 x h8⟩
    rcases hg8 with e8 | ⟨a, e8⟩
    · rw [e8] at hj' k2
      exact lv_aload_nN hx hb hd rfl hj' k2
    · rw [e8] at hj' k2
      exact lv_aload_n hx hb hd rfl hj' k2
  · cases hq
theorem j_s_aload {n : Nat} (hC : j_Cx g ad B D cA cl TW zs ks own nm cc nL p s m args meth c) (hkd : j_kd cl TW df ∧ cl[99]? = none ∧ ∀ rr : vw_C, cl[4]? = some rr → rr.1 = "HundredWords$Row") (hd : decode cc pc = .ok (.aload n, len)) (hlen : len = j_len (.aload n)) (hlk : j_lk own nm cl TW zs ks pc (.aload n, len, l1, l2, val, ty)) (h : jstep df nL pc (.aload n, len, l1, l2, val, ty) lv st hp = some (pc', lv', st', hp', dc, ds)) (hl : lv_has ls nL (j_sl g lv)) (hH : j_H g ad B D cA cl s H hp) (hS : va_S (j_A B) s.heap H locs) (hc : cells + dc ≤ R.cells) (hs : slots + ds ≤ R.slots)
    (kk : ∀ (H' : Heap) (locs' : List Loc) (ls' : Array Slot), lv_has ls' nL (j_sl g lv') → j_H g ad B D cA cl s H' hp' → va_S (j_A B) s.heap H' locs' → W p l e R s m args below meth c H' locs' (cells + dc) (slots + ds) Q (F0 m pc' ls' (st'.map (j_rv g)))) : W p l e R s m args below meth c H locs cells slots Q (F0 m pc ls (st.map (j_rv g))) := by
  obtain ⟨hG, hx, hb, hml, hown, hts, hlocks, hname, hK, hSt, hKs, hBs⟩ := hC
  subst hlen
  obtain ⟨q, hq, hX⟩ := j_go_some h
  split at hq
  · rename_i x hj
    cases hq
    cases hX
    have hj' := j_get_ls hl hj
    have k2 := (kk H locs ls hl hH hS)
    change ls[_]? = some (Slot.val (g x)) at hj'
    change W p l e R s m args below meth c H locs _ _ Q (F0 m _ ls (g x :: st.map (j_rv g))) at k2
    have hg8 : g x = .null ∨ ∃ a, g x = .ref a := by
      by_cases h8 : x = 8
      · rw [h8]; exact hG.2.1
      · exact Or.inr ⟨_, hG.1 x h8⟩
    rcases hg8 with e8 | ⟨a, e8⟩
    · rw [e8] at hj' k2
      exact lv_aloadN hx hb hd hj' k2
    · rw [e8] at hj' k2
      exact lv_aload hx hb hd hj' k2
  · cases hq
theorem j_s_istore_n {n : Fin 4} (hC : j_Cx g ad B D cA cl TW zs ks own nm cc nL p s m args meth c) (hkd : j_kd cl TW df ∧ cl[99]? = none ∧ ∀ rr : vw_C, cl[4]? = some rr → rr.1 = "HundredWords$Row") (hd : decode cc pc = .ok (.istore_n n, len)) (hlen : len = j_len (.istore_n n)) (hlk : j_lk own nm cl TW zs ks pc (.istore_n n, len, l1, l2, val, ty)) (h : jstep df nL pc (.istore_n n, len, l1, l2, val, ty) lv st hp = some (pc', lv', st', hp', dc, ds)) (hl : lv_has ls nL (j_sl g lv)) (hH : j_H g ad B D cA cl s H hp) (hS : va_S (j_A B) s.heap H locs) (hc : cells + dc ≤ R.cells) (hs : slots + ds ≤ R.slots)
    (kk : ∀ (H' : Heap) (locs' : List Loc) (ls' : Array Slot), lv_has ls' nL (j_sl g lv') → j_H g ad B D cA cl s H' hp' → va_S (j_A B) s.heap H' locs' → W p l e R s m args below meth c H' locs' (cells + dc) (slots + ds) Q (F0 m pc' ls' (st'.map (j_rv g)))) : W p l e R s m args below meth c H locs cells slots Q (F0 m pc ls (st.map (j_rv g))) := by
  obtain ⟨hG, hx, hb, hml, hown, hts, hlocks, hname, hK, hSt, hKs, hBs⟩ := hC
  subst hlen
  cases st with
  | nil => cases h
  | cons v r =>
    cases v with
    | int x =>
      change cond (Nat.blt _ nL) (some _) none = some _ at h
      cases hb1 : Nat.blt (n : Nat) nL with
      | false => rw [hb1] at h; cases h
      | true =>
        rw [hb1] at h
        cases h
        exact lv_istore_n hx hb hd rfl hl (Nat.le_of_ble_eq_true hb1) (j_put1_sl hG lv n (.int x)).symm (fun ls' hl' => kk H locs ls' hl' hH hS)
    | _ => cases h
theorem j_s_istore {n : Nat} (hC : j_Cx g ad B D cA cl TW zs ks own nm cc nL p s m args meth c) (hkd : j_kd cl TW df ∧ cl[99]? = none ∧ ∀ rr : vw_C, cl[4]? = some rr → rr.1 = "HundredWords$Row") (hd : decode cc pc = .ok (.istore n, len)) (hlen : len = j_len (.istore n)) (hlk : j_lk own nm cl TW zs ks pc (.istore n, len, l1, l2, val, ty)) (h : jstep df nL pc (.istore n, len, l1, l2, val, ty) lv st hp = some (pc', lv', st', hp', dc, ds)) (hl : lv_has ls nL (j_sl g lv)) (hH : j_H g ad B D cA cl s H hp) (hS : va_S (j_A B) s.heap H locs) (hc : cells + dc ≤ R.cells) (hs : slots + ds ≤ R.slots)
    (kk : ∀ (H' : Heap) (locs' : List Loc) (ls' : Array Slot), lv_has ls' nL (j_sl g lv') → j_H g ad B D cA cl s H' hp' → va_S (j_A B) s.heap H' locs' → W p l e R s m args below meth c H' locs' (cells + dc) (slots + ds) Q (F0 m pc' ls' (st'.map (j_rv g)))) : W p l e R s m args below meth c H locs cells slots Q (F0 m pc ls (st.map (j_rv g))) := by
  obtain ⟨hG, hx, hb, hml, hown, hts, hlocks, hname, hK, hSt, hKs, hBs⟩ := hC
  subst hlen
  cases st with
  | nil => cases h
  | cons v r =>
    cases v with
    | int x =>
      change cond (Nat.blt _ nL) (some _) none = some _ at h
      cases hb1 : Nat.blt (n : Nat) nL with
      | false => rw [hb1] at h; cases h
      | true =>
        rw [hb1] at h
        cases h
        exact lv_istore hx hb hd hl (Nat.le_of_ble_eq_true hb1) (j_put1_sl hG lv n (.int x)).symm (fun ls' hl' => kk H locs ls' hl' hH hS)
    | _ => cases h
theorem j_s_astore_n {n : Fin 4} (hC : j_Cx g ad B D cA cl TW zs ks own nm cc nL p s m args meth c) (hkd : j_kd cl TW df ∧ cl[99]? = none ∧ ∀ rr : vw_C, cl[4]? = some rr → rr.1 = "HundredWords$Row") (hd : decode cc pc = .ok (.astore_n n, len)) (hlen : len = j_len (.astore_n n)) (hlk : j_lk own nm cl TW zs ks pc (.astore_n n, len, l1, l2, val, ty)) (h : jstep df nL pc (.astore_n n, len, l1, l2, val, ty) lv st hp = some (pc', lv', st', hp', dc, ds)) (hl : lv_has ls nL (j_sl g lv)) (hH : j_H g ad B D cA cl s H hp) (hS : va_S (j_A B) s.heap H locs) (hc : cells + dc ≤ R.cells) (hs : slots + ds ≤ R.slots)
    (kk : ∀ (H' : Heap) (locs' : List Loc) (ls' : Array Slot), lv_has ls' nL (j_sl g lv') → j_H g ad B D cA cl s H' hp' → va_S (j_A B) s.heap H' locs' → W p l e R s m args below meth c H' locs' (cells + dc) (slots + ds) Q (F0 m pc' ls' (st'.map (j_rv g)))) : W p l e R s m args below meth c H locs cells slots Q (F0 m pc ls (st.map (j_rv g))) := by
  obtain ⟨hG, hx, hb, hml, hown, hts, hlocks, hname, hK, hSt, hKs, hBs⟩ := hC
  subst hlen
  cases st with
  | nil => cases h
  | cons v r =>
    cases v with
    | ref x =>
      change cond (Nat.blt _ nL && Nat.ble 9 x) (some _) none = some _ at h
      cases hb1 : Nat.blt (n : Nat) nL && Nat.ble 9 x with
      | false => rw [hb1] at h; cases h
      | true =>
        rw [hb1] at h
        cases h
        rw [Bool.and_eq_true] at hb1
        have h9 : g x = .ref (ad x) := hG.ref (Nat.le_of_ble_eq_true hb1.2)
        show W p l e R s m args below meth c H locs _ _ Q (F0 m _ ls (g x :: _))
        rw [h9]
        exact lv_astore_n hx hb hd rfl hl (Nat.le_of_ble_eq_true hb1.1) ((j_put1_sl hG lv n (.ref x)).trans (by show (_, g x) :: _ = _; rw [h9])).symm (fun ls' hl' => kk H locs ls' hl' hH hS)
    | _ => cases h
theorem j_s_astore {n : Nat} (hC : j_Cx g ad B D cA cl TW zs ks own nm cc nL p s m args meth c) (hkd : j_kd cl TW df ∧ cl[99]? = none ∧ ∀ rr : vw_C, cl[4]? = some rr → rr.1 = "HundredWords$Row") (hd : decode cc pc = .ok (.astore n, len)) (hlen : len = j_len (.astore n)) (hlk : j_lk own nm cl TW zs ks pc (.astore n, len, l1, l2, val, ty)) (h : jstep df nL pc (.astore n, len, l1, l2, val, ty) lv st hp = some (pc', lv', st', hp', dc, ds)) (hl : lv_has ls nL (j_sl g lv)) (hH : j_H g ad B D cA cl s H hp) (hS : va_S (j_A B) s.heap H locs) (hc : cells + dc ≤ R.cells) (hs : slots + ds ≤ R.slots)
    (kk : ∀ (H' : Heap) (locs' : List Loc) (ls' : Array Slot), lv_has ls' nL (j_sl g lv') → j_H g ad B D cA cl s H' hp' → va_S (j_A B) s.heap H' locs' → W p l e R s m args below meth c H' locs' (cells + dc) (slots + ds) Q (F0 m pc' ls' (st'.map (j_rv g)))) : W p l e R s m args below meth c H locs cells slots Q (F0 m pc ls (st.map (j_rv g))) := by
  obtain ⟨hG, hx, hb, hml, hown, hts, hlocks, hname, hK, hSt, hKs, hBs⟩ := hC
  subst hlen
  cases st with
  | nil => cases h
  | cons v r =>
    cases v with
    | ref x =>
      change cond (Nat.blt _ nL && Nat.ble 9 x) (some _) none = some _ at h
      cases hb1 : Nat.blt (n : Nat) nL && Nat.ble 9 x with
      | false => rw [hb1] at h; cases h
      | true =>
        rw [hb1] at h
        cases h
        rw [Bool.and_eq_true] at hb1
        have h9 : g x = .ref (ad x) := hG.ref (Nat.le_of_ble_eq_true hb1.2)
        show W p l e R s m args below meth c H locs _ _ Q (F0 m _ ls (g x :: _))
        rw [h9]
        exact lv_astore hx hb hd hl (Nat.le_of_ble_eq_true hb1.1) ((j_put1_sl hG lv n (.ref x)).trans (by show (_, g x) :: _ = _; rw [h9])).symm (fun ls' hl' => kk H locs ls' hl' hH hS)
    | _ => cases h
theorem j_s_lstore_n {n : Fin 4} (hC : j_Cx g ad B D cA cl TW zs ks own nm cc nL p s m args meth c) (hkd : j_kd cl TW df ∧ cl[99]? = none ∧ ∀ rr : vw_C, cl[4]? = some rr → rr.1 = "HundredWords$Row") (hd : decode cc pc = .ok (.lstore_n n, len)) (hlen : len = j_len (.lstore_n n)) (hlk : j_lk own nm cl TW zs ks pc (.lstore_n n, len, l1, l2, val, ty)) (h : jstep df nL pc (.lstore_n n, len, l1, l2, val, ty) lv st hp = some (pc', lv', st', hp', dc, ds)) (hl : lv_has ls nL (j_sl g lv)) (hH : j_H g ad B D cA cl s H hp) (hS : va_S (j_A B) s.heap H locs) (hc : cells + dc ≤ R.cells) (hs : slots + ds ≤ R.slots)
    (kk : ∀ (H' : Heap) (locs' : List Loc) (ls' : Array Slot), lv_has ls' nL (j_sl g lv') → j_H g ad B D cA cl s H' hp' → va_S (j_A B) s.heap H' locs' → W p l e R s m args below meth c H' locs' (cells + dc) (slots + ds) Q (F0 m pc' ls' (st'.map (j_rv g)))) : W p l e R s m args below meth c H locs cells slots Q (F0 m pc ls (st.map (j_rv g))) := by
  obtain ⟨hG, hx, hb, hml, hown, hts, hlocks, hname, hK, hSt, hKs, hBs⟩ := hC
  subst hlen
  cases st with
  | nil => cases h
  | cons v r =>
    cases v with
    | long x =>
      change cond (Nat.blt _ nL) (some _) none = some _ at h
      cases hb1 : Nat.blt ((n : Nat) + 1) nL with
      | false => rw [hb1] at h; cases h
      | true =>
        rw [hb1] at h
        cases h
        exact lv_lstore_n hx hb hd rfl hl (Nat.le_of_ble_eq_true hb1) (j_put2_sl hG lv n (.long x)).symm (fun ls' hl' => kk H locs ls' hl' hH hS)
    | _ => cases h
theorem j_s_lstore {n : Nat} (hC : j_Cx g ad B D cA cl TW zs ks own nm cc nL p s m args meth c) (hkd : j_kd cl TW df ∧ cl[99]? = none ∧ ∀ rr : vw_C, cl[4]? = some rr → rr.1 = "HundredWords$Row") (hd : decode cc pc = .ok (.lstore n, len)) (hlen : len = j_len (.lstore n)) (hlk : j_lk own nm cl TW zs ks pc (.lstore n, len, l1, l2, val, ty)) (h : jstep df nL pc (.lstore n, len, l1, l2, val, ty) lv st hp = some (pc', lv', st', hp', dc, ds)) (hl : lv_has ls nL (j_sl g lv)) (hH : j_H g ad B D cA cl s H hp) (hS : va_S (j_A B) s.heap H locs) (hc : cells + dc ≤ R.cells) (hs : slots + ds ≤ R.slots)
    (kk : ∀ (H' : Heap) (locs' : List Loc) (ls' : Array Slot), lv_has ls' nL (j_sl g lv') → j_H g ad B D cA cl s H' hp' → va_S (j_A B) s.heap H' locs' → W p l e R s m args below meth c H' locs' (cells + dc) (slots + ds) Q (F0 m pc' ls' (st'.map (j_rv g)))) : W p l e R s m args below meth c H locs cells slots Q (F0 m pc ls (st.map (j_rv g))) := by
  obtain ⟨hG, hx, hb, hml, hown, hts, hlocks, hname, hK, hSt, hKs, hBs⟩ := hC
  subst hlen
  cases st with
  | nil => cases h
  | cons v r =>
    cases v with
    | long x =>
      change cond (Nat.blt _ nL) (some _) none = some _ at h
      cases hb1 : Nat.blt ((n : Nat) + 1) nL with
      | false => rw [hb1] at h; cases h
      | true =>
        rw [hb1] at h
        cases h
        exact lv_lstore hx hb hd hl (Nat.le_of_ble_eq_true hb1) (j_put2_sl hG lv n (.long x)).symm (fun ls' hl' => kk H locs ls' hl' hH hS)
    | _ => cases h
theorem j_s_iinc {n : Nat} {z : Int} (hC : j_Cx g ad B D cA cl TW zs ks own nm cc nL p s m args meth c) (hkd : j_kd cl TW df ∧ cl[99]? = none ∧ ∀ rr : vw_C, cl[4]? = some rr → rr.1 = "HundredWords$Row") (hd : decode cc pc = .ok (.iinc n z, len)) (hlen : len = j_len (.iinc n z)) (hlk : j_lk own nm cl TW zs ks pc (.iinc n z, len, l1, l2, val, ty)) (h : jstep df nL pc (.iinc n z, len, l1, l2, val, ty) lv st hp = some (pc', lv', st', hp', dc, ds)) (hl : lv_has ls nL (j_sl g lv)) (hH : j_H g ad B D cA cl s H hp) (hS : va_S (j_A B) s.heap H locs) (hc : cells + dc ≤ R.cells) (hs : slots + ds ≤ R.slots)
    (kk : ∀ (H' : Heap) (locs' : List Loc) (ls' : Array Slot), lv_has ls' nL (j_sl g lv') → j_H g ad B D cA cl s H' hp' → va_S (j_A B) s.heap H' locs' → W p l e R s m args below meth c H' locs' (cells + dc) (slots + ds) Q (F0 m pc' ls' (st'.map (j_rv g)))) : W p l e R s m args below meth c H locs cells slots Q (F0 m pc ls (st.map (j_rv g))) := by
  obtain ⟨hG, hx, hb, hml, hown, hts, hlocks, hname, hK, hSt, hKs, hBs⟩ := hC
  subst hlen
  change (match j_get lv n with | some (.int x) => cond (Nat.blt n nL && Nat.beq 3 3) (some _) none | _ => none) = some _ at h
  split at h
  · rename_i x hj
    cases hb1 : Nat.blt n nL && Nat.beq 3 3 with
    | false => rw [hb1] at h; cases h
    | true =>
      rw [hb1] at h
      cases h
      rw [Bool.and_eq_true] at hb1
      obtain ⟨k, hk⟩ := List.getElem?_of_mem (List.mem_map.mpr ⟨(n, Value.int x), j_get_mem hj, rfl⟩ : (n, Value.int x) ∈ j_sl g lv)
      exact lv_iinc hx hb hd hl hk rfl (Nat.le_of_ble_eq_true hb1.1) (j_put1_sl hG lv n (.int (x + Int32.ofInt z))).symm (fun ls' hl' => kk H locs ls' hl' hH hS)
  · cases h
theorem j_s_iadd (hC : j_Cx g ad B D cA cl TW zs ks own nm cc nL p s m args meth c) (hkd : j_kd cl TW df ∧ cl[99]? = none ∧ ∀ rr : vw_C, cl[4]? = some rr → rr.1 = "HundredWords$Row") (hd : decode cc pc = .ok (.iadd, len)) (hlen : len = j_len (.iadd)) (hlk : j_lk own nm cl TW zs ks pc (.iadd, len, l1, l2, val, ty)) (h : jstep df nL pc (.iadd, len, l1, l2, val, ty) lv st hp = some (pc', lv', st', hp', dc, ds)) (hl : lv_has ls nL (j_sl g lv)) (hH : j_H g ad B D cA cl s H hp) (hS : va_S (j_A B) s.heap H locs) (hc : cells + dc ≤ R.cells) (hs : slots + ds ≤ R.slots)
    (kk : ∀ (H' : Heap) (locs' : List Loc) (ls' : Array Slot), lv_has ls' nL (j_sl g lv') → j_H g ad B D cA cl s H' hp' → va_S (j_A B) s.heap H' locs' → W p l e R s m args below meth c H' locs' (cells + dc) (slots + ds) Q (F0 m pc' ls' (st'.map (j_rv g)))) : W p l e R s m args below meth c H locs cells slots Q (F0 m pc ls (st.map (j_rv g))) := by
  obtain ⟨hG, hx, hb, hml, hown, hts, hlocks, hname, hK, hSt, hKs, hBs⟩ := hC
  subst hlen
  obtain ⟨q, hq, hX⟩ := j_go_some h
  obtain ⟨x, y, r, rfl, rfl⟩ := j_ii_some hq
  cases hX
  exact lv_iadd hx hb hd (kk H locs ls hl hH hS)
theorem j_s_isub (hC : j_Cx g ad B D cA cl TW zs ks own nm cc nL p s m args meth c) (hkd : j_kd cl TW df ∧ cl[99]? = none ∧ ∀ rr : vw_C, cl[4]? = some rr → rr.1 = "HundredWords$Row") (hd : decode cc pc = .ok (.isub, len)) (hlen : len = j_len (.isub)) (hlk : j_lk own nm cl TW zs ks pc (.isub, len, l1, l2, val, ty)) (h : jstep df nL pc (.isub, len, l1, l2, val, ty) lv st hp = some (pc', lv', st', hp', dc, ds)) (hl : lv_has ls nL (j_sl g lv)) (hH : j_H g ad B D cA cl s H hp) (hS : va_S (j_A B) s.heap H locs) (hc : cells + dc ≤ R.cells) (hs : slots + ds ≤ R.slots)
    (kk : ∀ (H' : Heap) (locs' : List Loc) (ls' : Array Slot), lv_has ls' nL (j_sl g lv') → j_H g ad B D cA cl s H' hp' → va_S (j_A B) s.heap H' locs' → W p l e R s m args below meth c H' locs' (cells + dc) (slots + ds) Q (F0 m pc' ls' (st'.map (j_rv g)))) : W p l e R s m args below meth c H locs cells slots Q (F0 m pc ls (st.map (j_rv g))) := by
  obtain ⟨hG, hx, hb, hml, hown, hts, hlocks, hname, hK, hSt, hKs, hBs⟩ := hC
  subst hlen
  obtain ⟨q, hq, hX⟩ := j_go_some h
  obtain ⟨x, y, r, rfl, rfl⟩ := j_ii_some hq
  cases hX
  exact lv_isub hx hb hd (kk H locs ls hl hH hS)
theorem j_s_imul (hC : j_Cx g ad B D cA cl TW zs ks own nm cc nL p s m args meth c) (hkd : j_kd cl TW df ∧ cl[99]? = none ∧ ∀ rr : vw_C, cl[4]? = some rr → rr.1 = "HundredWords$Row") (hd : decode cc pc = .ok (.imul, len)) (hlen : len = j_len (.imul)) (hlk : j_lk own nm cl TW zs ks pc (.imul, len, l1, l2, val, ty)) (h : jstep df nL pc (.imul, len, l1, l2, val, ty) lv st hp = some (pc', lv', st', hp', dc, ds)) (hl : lv_has ls nL (j_sl g lv)) (hH : j_H g ad B D cA cl s H hp) (hS : va_S (j_A B) s.heap H locs) (hc : cells + dc ≤ R.cells) (hs : slots + ds ≤ R.slots)
    (kk : ∀ (H' : Heap) (locs' : List Loc) (ls' : Array Slot), lv_has ls' nL (j_sl g lv') → j_H g ad B D cA cl s H' hp' → va_S (j_A B) s.heap H' locs' → W p l e R s m args below meth c H' locs' (cells + dc) (slots + ds) Q (F0 m pc' ls' (st'.map (j_rv g)))) : W p l e R s m args below meth c H locs cells slots Q (F0 m pc ls (st.map (j_rv g))) := by
  obtain ⟨hG, hx, hb, hml, hown, hts, hlocks, hname, hK, hSt, hKs, hBs⟩ := hC
  subst hlen
  obtain ⟨q, hq, hX⟩ := j_go_some h
  obtain ⟨x, y, r, rfl, rfl⟩ := j_ii_some hq
  cases hX
  exact lv_imul hx hb hd (kk H locs ls hl hH hS)
theorem j_s_iand (hC : j_Cx g ad B D cA cl TW zs ks own nm cc nL p s m args meth c) (hkd : j_kd cl TW df ∧ cl[99]? = none ∧ ∀ rr : vw_C, cl[4]? = some rr → rr.1 = "HundredWords$Row") (hd : decode cc pc = .ok (.iand, len)) (hlen : len = j_len (.iand)) (hlk : j_lk own nm cl TW zs ks pc (.iand, len, l1, l2, val, ty)) (h : jstep df nL pc (.iand, len, l1, l2, val, ty) lv st hp = some (pc', lv', st', hp', dc, ds)) (hl : lv_has ls nL (j_sl g lv)) (hH : j_H g ad B D cA cl s H hp) (hS : va_S (j_A B) s.heap H locs) (hc : cells + dc ≤ R.cells) (hs : slots + ds ≤ R.slots)
    (kk : ∀ (H' : Heap) (locs' : List Loc) (ls' : Array Slot), lv_has ls' nL (j_sl g lv') → j_H g ad B D cA cl s H' hp' → va_S (j_A B) s.heap H' locs' → W p l e R s m args below meth c H' locs' (cells + dc) (slots + ds) Q (F0 m pc' ls' (st'.map (j_rv g)))) : W p l e R s m args below meth c H locs cells slots Q (F0 m pc ls (st.map (j_rv g))) := by
  obtain ⟨hG, hx, hb, hml, hown, hts, hlocks, hname, hK, hSt, hKs, hBs⟩ := hC
  subst hlen
  obtain ⟨q, hq, hX⟩ := j_go_some h
  obtain ⟨x, y, r, rfl, rfl⟩ := j_ii_some hq
  cases hX
  exact lv_iand hx hb hd (kk H locs ls hl hH hS)
theorem j_s_ior (hC : j_Cx g ad B D cA cl TW zs ks own nm cc nL p s m args meth c) (hkd : j_kd cl TW df ∧ cl[99]? = none ∧ ∀ rr : vw_C, cl[4]? = some rr → rr.1 = "HundredWords$Row") (hd : decode cc pc = .ok (.ior, len)) (hlen : len = j_len (.ior)) (hlk : j_lk own nm cl TW zs ks pc (.ior, len, l1, l2, val, ty)) (h : jstep df nL pc (.ior, len, l1, l2, val, ty) lv st hp = some (pc', lv', st', hp', dc, ds)) (hl : lv_has ls nL (j_sl g lv)) (hH : j_H g ad B D cA cl s H hp) (hS : va_S (j_A B) s.heap H locs) (hc : cells + dc ≤ R.cells) (hs : slots + ds ≤ R.slots)
    (kk : ∀ (H' : Heap) (locs' : List Loc) (ls' : Array Slot), lv_has ls' nL (j_sl g lv') → j_H g ad B D cA cl s H' hp' → va_S (j_A B) s.heap H' locs' → W p l e R s m args below meth c H' locs' (cells + dc) (slots + ds) Q (F0 m pc' ls' (st'.map (j_rv g)))) : W p l e R s m args below meth c H locs cells slots Q (F0 m pc ls (st.map (j_rv g))) := by
  obtain ⟨hG, hx, hb, hml, hown, hts, hlocks, hname, hK, hSt, hKs, hBs⟩ := hC
  subst hlen
  obtain ⟨q, hq, hX⟩ := j_go_some h
  obtain ⟨x, y, r, rfl, rfl⟩ := j_ii_some hq
  cases hX
  exact lv_ior hx hb hd (kk H locs ls hl hH hS)
theorem j_s_ishl (hC : j_Cx g ad B D cA cl TW zs ks own nm cc nL p s m args meth c) (hkd : j_kd cl TW df ∧ cl[99]? = none ∧ ∀ rr : vw_C, cl[4]? = some rr → rr.1 = "HundredWords$Row") (hd : decode cc pc = .ok (.ishl, len)) (hlen : len = j_len (.ishl)) (hlk : j_lk own nm cl TW zs ks pc (.ishl, len, l1, l2, val, ty)) (h : jstep df nL pc (.ishl, len, l1, l2, val, ty) lv st hp = some (pc', lv', st', hp', dc, ds)) (hl : lv_has ls nL (j_sl g lv)) (hH : j_H g ad B D cA cl s H hp) (hS : va_S (j_A B) s.heap H locs) (hc : cells + dc ≤ R.cells) (hs : slots + ds ≤ R.slots)
    (kk : ∀ (H' : Heap) (locs' : List Loc) (ls' : Array Slot), lv_has ls' nL (j_sl g lv') → j_H g ad B D cA cl s H' hp' → va_S (j_A B) s.heap H' locs' → W p l e R s m args below meth c H' locs' (cells + dc) (slots + ds) Q (F0 m pc' ls' (st'.map (j_rv g)))) : W p l e R s m args below meth c H locs cells slots Q (F0 m pc ls (st.map (j_rv g))) := by
  obtain ⟨hG, hx, hb, hml, hown, hts, hlocks, hname, hK, hSt, hKs, hBs⟩ := hC
  subst hlen
  obtain ⟨q, hq, hX⟩ := j_go_some h
  obtain ⟨x, y, r, rfl, rfl⟩ := j_ii_some hq
  cases hX
  exact lv_ishl hx hb hd (kk H locs ls hl hH hS)
theorem j_s_ishr (hC : j_Cx g ad B D cA cl TW zs ks own nm cc nL p s m args meth c) (hkd : j_kd cl TW df ∧ cl[99]? = none ∧ ∀ rr : vw_C, cl[4]? = some rr → rr.1 = "HundredWords$Row") (hd : decode cc pc = .ok (.ishr, len)) (hlen : len = j_len (.ishr)) (hlk : j_lk own nm cl TW zs ks pc (.ishr, len, l1, l2, val, ty)) (h : jstep df nL pc (.ishr, len, l1, l2, val, ty) lv st hp = some (pc', lv', st', hp', dc, ds)) (hl : lv_has ls nL (j_sl g lv)) (hH : j_H g ad B D cA cl s H hp) (hS : va_S (j_A B) s.heap H locs) (hc : cells + dc ≤ R.cells) (hs : slots + ds ≤ R.slots)
    (kk : ∀ (H' : Heap) (locs' : List Loc) (ls' : Array Slot), lv_has ls' nL (j_sl g lv') → j_H g ad B D cA cl s H' hp' → va_S (j_A B) s.heap H' locs' → W p l e R s m args below meth c H' locs' (cells + dc) (slots + ds) Q (F0 m pc' ls' (st'.map (j_rv g)))) : W p l e R s m args below meth c H locs cells slots Q (F0 m pc ls (st.map (j_rv g))) := by
  obtain ⟨hG, hx, hb, hml, hown, hts, hlocks, hname, hK, hSt, hKs, hBs⟩ := hC
  subst hlen
  obtain ⟨q, hq, hX⟩ := j_go_some h
  obtain ⟨x, y, r, rfl, rfl⟩ := j_ii_some hq
  cases hX
  exact lv_ishr hx hb hd (kk H locs ls hl hH hS)
theorem j_s_ladd (hC : j_Cx g ad B D cA cl TW zs ks own nm cc nL p s m args meth c) (hkd : j_kd cl TW df ∧ cl[99]? = none ∧ ∀ rr : vw_C, cl[4]? = some rr → rr.1 = "HundredWords$Row") (hd : decode cc pc = .ok (.ladd, len)) (hlen : len = j_len (.ladd)) (hlk : j_lk own nm cl TW zs ks pc (.ladd, len, l1, l2, val, ty)) (h : jstep df nL pc (.ladd, len, l1, l2, val, ty) lv st hp = some (pc', lv', st', hp', dc, ds)) (hl : lv_has ls nL (j_sl g lv)) (hH : j_H g ad B D cA cl s H hp) (hS : va_S (j_A B) s.heap H locs) (hc : cells + dc ≤ R.cells) (hs : slots + ds ≤ R.slots)
    (kk : ∀ (H' : Heap) (locs' : List Loc) (ls' : Array Slot), lv_has ls' nL (j_sl g lv') → j_H g ad B D cA cl s H' hp' → va_S (j_A B) s.heap H' locs' → W p l e R s m args below meth c H' locs' (cells + dc) (slots + ds) Q (F0 m pc' ls' (st'.map (j_rv g)))) : W p l e R s m args below meth c H locs cells slots Q (F0 m pc ls (st.map (j_rv g))) := by
  obtain ⟨hG, hx, hb, hml, hown, hts, hlocks, hname, hK, hSt, hKs, hBs⟩ := hC
  subst hlen
  obtain ⟨q, hq, hX⟩ := j_go_some h
  obtain ⟨x, y, r, rfl, rfl⟩ := j_ll_some hq
  cases hX
  exact lv_ladd hx hb hd (kk H locs ls hl hH hS)
theorem j_s_lsub (hC : j_Cx g ad B D cA cl TW zs ks own nm cc nL p s m args meth c) (hkd : j_kd cl TW df ∧ cl[99]? = none ∧ ∀ rr : vw_C, cl[4]? = some rr → rr.1 = "HundredWords$Row") (hd : decode cc pc = .ok (.lsub, len)) (hlen : len = j_len (.lsub)) (hlk : j_lk own nm cl TW zs ks pc (.lsub, len, l1, l2, val, ty)) (h : jstep df nL pc (.lsub, len, l1, l2, val, ty) lv st hp = some (pc', lv', st', hp', dc, ds)) (hl : lv_has ls nL (j_sl g lv)) (hH : j_H g ad B D cA cl s H hp) (hS : va_S (j_A B) s.heap H locs) (hc : cells + dc ≤ R.cells) (hs : slots + ds ≤ R.slots)
    (kk : ∀ (H' : Heap) (locs' : List Loc) (ls' : Array Slot), lv_has ls' nL (j_sl g lv') → j_H g ad B D cA cl s H' hp' → va_S (j_A B) s.heap H' locs' → W p l e R s m args below meth c H' locs' (cells + dc) (slots + ds) Q (F0 m pc' ls' (st'.map (j_rv g)))) : W p l e R s m args below meth c H locs cells slots Q (F0 m pc ls (st.map (j_rv g))) := by
  obtain ⟨hG, hx, hb, hml, hown, hts, hlocks, hname, hK, hSt, hKs, hBs⟩ := hC
  subst hlen
  obtain ⟨q, hq, hX⟩ := j_go_some h
  obtain ⟨x, y, r, rfl, rfl⟩ := j_ll_some hq
  cases hX
  exact lv_lsub hx hb hd (kk H locs ls hl hH hS)
theorem j_s_lmul (hC : j_Cx g ad B D cA cl TW zs ks own nm cc nL p s m args meth c) (hkd : j_kd cl TW df ∧ cl[99]? = none ∧ ∀ rr : vw_C, cl[4]? = some rr → rr.1 = "HundredWords$Row") (hd : decode cc pc = .ok (.lmul, len)) (hlen : len = j_len (.lmul)) (hlk : j_lk own nm cl TW zs ks pc (.lmul, len, l1, l2, val, ty)) (h : jstep df nL pc (.lmul, len, l1, l2, val, ty) lv st hp = some (pc', lv', st', hp', dc, ds)) (hl : lv_has ls nL (j_sl g lv)) (hH : j_H g ad B D cA cl s H hp) (hS : va_S (j_A B) s.heap H locs) (hc : cells + dc ≤ R.cells) (hs : slots + ds ≤ R.slots)
    (kk : ∀ (H' : Heap) (locs' : List Loc) (ls' : Array Slot), lv_has ls' nL (j_sl g lv') → j_H g ad B D cA cl s H' hp' → va_S (j_A B) s.heap H' locs' → W p l e R s m args below meth c H' locs' (cells + dc) (slots + ds) Q (F0 m pc' ls' (st'.map (j_rv g)))) : W p l e R s m args below meth c H locs cells slots Q (F0 m pc ls (st.map (j_rv g))) := by
  obtain ⟨hG, hx, hb, hml, hown, hts, hlocks, hname, hK, hSt, hKs, hBs⟩ := hC
  subst hlen
  obtain ⟨q, hq, hX⟩ := j_go_some h
  obtain ⟨x, y, r, rfl, rfl⟩ := j_ll_some hq
  cases hX
  exact lv_lmul hx hb hd (kk H locs ls hl hH hS)
theorem j_s_land (hC : j_Cx g ad B D cA cl TW zs ks own nm cc nL p s m args meth c) (hkd : j_kd cl TW df ∧ cl[99]? = none ∧ ∀ rr : vw_C, cl[4]? = some rr → rr.1 = "HundredWords$Row") (hd : decode cc pc = .ok (.land, len)) (hlen : len = j_len (.land)) (hlk : j_lk own nm cl TW zs ks pc (.land, len, l1, l2, val, ty)) (h : jstep df nL pc (.land, len, l1, l2, val, ty) lv st hp = some (pc', lv', st', hp', dc, ds)) (hl : lv_has ls nL (j_sl g lv)) (hH : j_H g ad B D cA cl s H hp) (hS : va_S (j_A B) s.heap H locs) (hc : cells + dc ≤ R.cells) (hs : slots + ds ≤ R.slots)
    (kk : ∀ (H' : Heap) (locs' : List Loc) (ls' : Array Slot), lv_has ls' nL (j_sl g lv') → j_H g ad B D cA cl s H' hp' → va_S (j_A B) s.heap H' locs' → W p l e R s m args below meth c H' locs' (cells + dc) (slots + ds) Q (F0 m pc' ls' (st'.map (j_rv g)))) : W p l e R s m args below meth c H locs cells slots Q (F0 m pc ls (st.map (j_rv g))) := by
  obtain ⟨hG, hx, hb, hml, hown, hts, hlocks, hname, hK, hSt, hKs, hBs⟩ := hC
  subst hlen
  obtain ⟨q, hq, hX⟩ := j_go_some h
  obtain ⟨x, y, r, rfl, rfl⟩ := j_ll_some hq
  cases hX
  exact lv_land hx hb hd (kk H locs ls hl hH hS)
theorem j_s_lor (hC : j_Cx g ad B D cA cl TW zs ks own nm cc nL p s m args meth c) (hkd : j_kd cl TW df ∧ cl[99]? = none ∧ ∀ rr : vw_C, cl[4]? = some rr → rr.1 = "HundredWords$Row") (hd : decode cc pc = .ok (.lor, len)) (hlen : len = j_len (.lor)) (hlk : j_lk own nm cl TW zs ks pc (.lor, len, l1, l2, val, ty)) (h : jstep df nL pc (.lor, len, l1, l2, val, ty) lv st hp = some (pc', lv', st', hp', dc, ds)) (hl : lv_has ls nL (j_sl g lv)) (hH : j_H g ad B D cA cl s H hp) (hS : va_S (j_A B) s.heap H locs) (hc : cells + dc ≤ R.cells) (hs : slots + ds ≤ R.slots)
    (kk : ∀ (H' : Heap) (locs' : List Loc) (ls' : Array Slot), lv_has ls' nL (j_sl g lv') → j_H g ad B D cA cl s H' hp' → va_S (j_A B) s.heap H' locs' → W p l e R s m args below meth c H' locs' (cells + dc) (slots + ds) Q (F0 m pc' ls' (st'.map (j_rv g)))) : W p l e R s m args below meth c H locs cells slots Q (F0 m pc ls (st.map (j_rv g))) := by
  obtain ⟨hG, hx, hb, hml, hown, hts, hlocks, hname, hK, hSt, hKs, hBs⟩ := hC
  subst hlen
  obtain ⟨q, hq, hX⟩ := j_go_some h
  obtain ⟨x, y, r, rfl, rfl⟩ := j_ll_some hq
  cases hX
  exact lv_lor hx hb hd (kk H locs ls hl hH hS)
theorem j_s_lxor (hC : j_Cx g ad B D cA cl TW zs ks own nm cc nL p s m args meth c) (hkd : j_kd cl TW df ∧ cl[99]? = none ∧ ∀ rr : vw_C, cl[4]? = some rr → rr.1 = "HundredWords$Row") (hd : decode cc pc = .ok (.lxor, len)) (hlen : len = j_len (.lxor)) (hlk : j_lk own nm cl TW zs ks pc (.lxor, len, l1, l2, val, ty)) (h : jstep df nL pc (.lxor, len, l1, l2, val, ty) lv st hp = some (pc', lv', st', hp', dc, ds)) (hl : lv_has ls nL (j_sl g lv)) (hH : j_H g ad B D cA cl s H hp) (hS : va_S (j_A B) s.heap H locs) (hc : cells + dc ≤ R.cells) (hs : slots + ds ≤ R.slots)
    (kk : ∀ (H' : Heap) (locs' : List Loc) (ls' : Array Slot), lv_has ls' nL (j_sl g lv') → j_H g ad B D cA cl s H' hp' → va_S (j_A B) s.heap H' locs' → W p l e R s m args below meth c H' locs' (cells + dc) (slots + ds) Q (F0 m pc' ls' (st'.map (j_rv g)))) : W p l e R s m args below meth c H locs cells slots Q (F0 m pc ls (st.map (j_rv g))) := by
  obtain ⟨hG, hx, hb, hml, hown, hts, hlocks, hname, hK, hSt, hKs, hBs⟩ := hC
  subst hlen
  obtain ⟨q, hq, hX⟩ := j_go_some h
  obtain ⟨x, y, r, rfl, rfl⟩ := j_ll_some hq
  cases hX
  exact lv_lxor hx hb hd (kk H locs ls hl hH hS)
theorem j_s_iushr (hC : j_Cx g ad B D cA cl TW zs ks own nm cc nL p s m args meth c) (hkd : j_kd cl TW df ∧ cl[99]? = none ∧ ∀ rr : vw_C, cl[4]? = some rr → rr.1 = "HundredWords$Row") (hd : decode cc pc = .ok (.iushr, len)) (hlen : len = j_len (.iushr)) (hlk : j_lk own nm cl TW zs ks pc (.iushr, len, l1, l2, val, ty)) (h : jstep df nL pc (.iushr, len, l1, l2, val, ty) lv st hp = some (pc', lv', st', hp', dc, ds)) (hl : lv_has ls nL (j_sl g lv)) (hH : j_H g ad B D cA cl s H hp) (hS : va_S (j_A B) s.heap H locs) (hc : cells + dc ≤ R.cells) (hs : slots + ds ≤ R.slots)
    (kk : ∀ (H' : Heap) (locs' : List Loc) (ls' : Array Slot), lv_has ls' nL (j_sl g lv') → j_H g ad B D cA cl s H' hp' → va_S (j_A B) s.heap H' locs' → W p l e R s m args below meth c H' locs' (cells + dc) (slots + ds) Q (F0 m pc' ls' (st'.map (j_rv g)))) : W p l e R s m args below meth c H locs cells slots Q (F0 m pc ls (st.map (j_rv g))) := by
  obtain ⟨hG, hx, hb, hml, hown, hts, hlocks, hname, hK, hSt, hKs, hBs⟩ := hC
  subst hlen
  obtain ⟨q, hq, hX⟩ := j_go_some h
  obtain ⟨x, y, r, rfl, rfl⟩ := j_ii_some hq
  cases hX
  exact lv_iushr hx hb hd rfl (kk H locs ls hl hH hS)
theorem j_s_lshl (hC : j_Cx g ad B D cA cl TW zs ks own nm cc nL p s m args meth c) (hkd : j_kd cl TW df ∧ cl[99]? = none ∧ ∀ rr : vw_C, cl[4]? = some rr → rr.1 = "HundredWords$Row") (hd : decode cc pc = .ok (.lshl, len)) (hlen : len = j_len (.lshl)) (hlk : j_lk own nm cl TW zs ks pc (.lshl, len, l1, l2, val, ty)) (h : jstep df nL pc (.lshl, len, l1, l2, val, ty) lv st hp = some (pc', lv', st', hp', dc, ds)) (hl : lv_has ls nL (j_sl g lv)) (hH : j_H g ad B D cA cl s H hp) (hS : va_S (j_A B) s.heap H locs) (hc : cells + dc ≤ R.cells) (hs : slots + ds ≤ R.slots)
    (kk : ∀ (H' : Heap) (locs' : List Loc) (ls' : Array Slot), lv_has ls' nL (j_sl g lv') → j_H g ad B D cA cl s H' hp' → va_S (j_A B) s.heap H' locs' → W p l e R s m args below meth c H' locs' (cells + dc) (slots + ds) Q (F0 m pc' ls' (st'.map (j_rv g)))) : W p l e R s m args below meth c H locs cells slots Q (F0 m pc ls (st.map (j_rv g))) := by
  obtain ⟨hG, hx, hb, hml, hown, hts, hlocks, hname, hK, hSt, hKs, hBs⟩ := hC
  subst hlen
  obtain ⟨q, hq, hX⟩ := j_go_some h
  obtain ⟨x, y, r, rfl, rfl⟩ := j_li_some hq
  cases hX
  exact lv_lshl hx hb hd rfl (kk H locs ls hl hH hS)
theorem j_s_lshr (hC : j_Cx g ad B D cA cl TW zs ks own nm cc nL p s m args meth c) (hkd : j_kd cl TW df ∧ cl[99]? = none ∧ ∀ rr : vw_C, cl[4]? = some rr → rr.1 = "HundredWords$Row") (hd : decode cc pc = .ok (.lshr, len)) (hlen : len = j_len (.lshr)) (hlk : j_lk own nm cl TW zs ks pc (.lshr, len, l1, l2, val, ty)) (h : jstep df nL pc (.lshr, len, l1, l2, val, ty) lv st hp = some (pc', lv', st', hp', dc, ds)) (hl : lv_has ls nL (j_sl g lv)) (hH : j_H g ad B D cA cl s H hp) (hS : va_S (j_A B) s.heap H locs) (hc : cells + dc ≤ R.cells) (hs : slots + ds ≤ R.slots)
    (kk : ∀ (H' : Heap) (locs' : List Loc) (ls' : Array Slot), lv_has ls' nL (j_sl g lv') → j_H g ad B D cA cl s H' hp' → va_S (j_A B) s.heap H' locs' → W p l e R s m args below meth c H' locs' (cells + dc) (slots + ds) Q (F0 m pc' ls' (st'.map (j_rv g)))) : W p l e R s m args below meth c H locs cells slots Q (F0 m pc ls (st.map (j_rv g))) := by
  obtain ⟨hG, hx, hb, hml, hown, hts, hlocks, hname, hK, hSt, hKs, hBs⟩ := hC
  subst hlen
  obtain ⟨q, hq, hX⟩ := j_go_some h
  obtain ⟨x, y, r, rfl, rfl⟩ := j_li_some hq
  cases hX
  exact lv_lshr hx hb hd rfl (kk H locs ls hl hH hS)
theorem j_s_lushr (hC : j_Cx g ad B D cA cl TW zs ks own nm cc nL p s m args meth c) (hkd : j_kd cl TW df ∧ cl[99]? = none ∧ ∀ rr : vw_C, cl[4]? = some rr → rr.1 = "HundredWords$Row") (hd : decode cc pc = .ok (.lushr, len)) (hlen : len = j_len (.lushr)) (hlk : j_lk own nm cl TW zs ks pc (.lushr, len, l1, l2, val, ty)) (h : jstep df nL pc (.lushr, len, l1, l2, val, ty) lv st hp = some (pc', lv', st', hp', dc, ds)) (hl : lv_has ls nL (j_sl g lv)) (hH : j_H g ad B D cA cl s H hp) (hS : va_S (j_A B) s.heap H locs) (hc : cells + dc ≤ R.cells) (hs : slots + ds ≤ R.slots)
    (kk : ∀ (H' : Heap) (locs' : List Loc) (ls' : Array Slot), lv_has ls' nL (j_sl g lv') → j_H g ad B D cA cl s H' hp' → va_S (j_A B) s.heap H' locs' → W p l e R s m args below meth c H' locs' (cells + dc) (slots + ds) Q (F0 m pc' ls' (st'.map (j_rv g)))) : W p l e R s m args below meth c H locs cells slots Q (F0 m pc ls (st.map (j_rv g))) := by
  obtain ⟨hG, hx, hb, hml, hown, hts, hlocks, hname, hK, hSt, hKs, hBs⟩ := hC
  subst hlen
  obtain ⟨q, hq, hX⟩ := j_go_some h
  obtain ⟨x, y, r, rfl, rfl⟩ := j_li_some hq
  cases hX
  exact lv_lushr hx hb hd rfl (kk H locs ls hl hH hS)
theorem j_s_idiv (hC : j_Cx g ad B D cA cl TW zs ks own nm cc nL p s m args meth c) (hkd : j_kd cl TW df ∧ cl[99]? = none ∧ ∀ rr : vw_C, cl[4]? = some rr → rr.1 = "HundredWords$Row") (hd : decode cc pc = .ok (.idiv, len)) (hlen : len = j_len (.idiv)) (hlk : j_lk own nm cl TW zs ks pc (.idiv, len, l1, l2, val, ty)) (h : jstep df nL pc (.idiv, len, l1, l2, val, ty) lv st hp = some (pc', lv', st', hp', dc, ds)) (hl : lv_has ls nL (j_sl g lv)) (hH : j_H g ad B D cA cl s H hp) (hS : va_S (j_A B) s.heap H locs) (hc : cells + dc ≤ R.cells) (hs : slots + ds ≤ R.slots)
    (kk : ∀ (H' : Heap) (locs' : List Loc) (ls' : Array Slot), lv_has ls' nL (j_sl g lv') → j_H g ad B D cA cl s H' hp' → va_S (j_A B) s.heap H' locs' → W p l e R s m args below meth c H' locs' (cells + dc) (slots + ds) Q (F0 m pc' ls' (st'.map (j_rv g)))) : W p l e R s m args below meth c H locs cells slots Q (F0 m pc ls (st.map (j_rv g))) := by
  obtain ⟨hG, hx, hb, hml, hown, hts, hlocks, hname, hK, hSt, hKs, hBs⟩ := hC
  subst hlen
  obtain ⟨q, hq, hX⟩ := j_go_some h
  obtain ⟨x, y, r, rfl, rfl, hne⟩ := j_id_some hq
  cases hX
  exact lv_idiv hx hb hd hne (kk H locs ls hl hH hS)
theorem j_s_irem (hC : j_Cx g ad B D cA cl TW zs ks own nm cc nL p s m args meth c) (hkd : j_kd cl TW df ∧ cl[99]? = none ∧ ∀ rr : vw_C, cl[4]? = some rr → rr.1 = "HundredWords$Row") (hd : decode cc pc = .ok (.irem, len)) (hlen : len = j_len (.irem)) (hlk : j_lk own nm cl TW zs ks pc (.irem, len, l1, l2, val, ty)) (h : jstep df nL pc (.irem, len, l1, l2, val, ty) lv st hp = some (pc', lv', st', hp', dc, ds)) (hl : lv_has ls nL (j_sl g lv)) (hH : j_H g ad B D cA cl s H hp) (hS : va_S (j_A B) s.heap H locs) (hc : cells + dc ≤ R.cells) (hs : slots + ds ≤ R.slots)
    (kk : ∀ (H' : Heap) (locs' : List Loc) (ls' : Array Slot), lv_has ls' nL (j_sl g lv') → j_H g ad B D cA cl s H' hp' → va_S (j_A B) s.heap H' locs' → W p l e R s m args below meth c H' locs' (cells + dc) (slots + ds) Q (F0 m pc' ls' (st'.map (j_rv g)))) : W p l e R s m args below meth c H locs cells slots Q (F0 m pc ls (st.map (j_rv g))) := by
  obtain ⟨hG, hx, hb, hml, hown, hts, hlocks, hname, hK, hSt, hKs, hBs⟩ := hC
  subst hlen
  obtain ⟨q, hq, hX⟩ := j_go_some h
  obtain ⟨x, y, r, rfl, rfl, hne⟩ := j_id_some hq
  cases hX
  exact lv_irem hx hb hd hne (kk H locs ls hl hH hS)
theorem j_s_ldiv (hC : j_Cx g ad B D cA cl TW zs ks own nm cc nL p s m args meth c) (hkd : j_kd cl TW df ∧ cl[99]? = none ∧ ∀ rr : vw_C, cl[4]? = some rr → rr.1 = "HundredWords$Row") (hd : decode cc pc = .ok (.ldiv, len)) (hlen : len = j_len (.ldiv)) (hlk : j_lk own nm cl TW zs ks pc (.ldiv, len, l1, l2, val, ty)) (h : jstep df nL pc (.ldiv, len, l1, l2, val, ty) lv st hp = some (pc', lv', st', hp', dc, ds)) (hl : lv_has ls nL (j_sl g lv)) (hH : j_H g ad B D cA cl s H hp) (hS : va_S (j_A B) s.heap H locs) (hc : cells + dc ≤ R.cells) (hs : slots + ds ≤ R.slots)
    (kk : ∀ (H' : Heap) (locs' : List Loc) (ls' : Array Slot), lv_has ls' nL (j_sl g lv') → j_H g ad B D cA cl s H' hp' → va_S (j_A B) s.heap H' locs' → W p l e R s m args below meth c H' locs' (cells + dc) (slots + ds) Q (F0 m pc' ls' (st'.map (j_rv g)))) : W p l e R s m args below meth c H locs cells slots Q (F0 m pc ls (st.map (j_rv g))) := by
  obtain ⟨hG, hx, hb, hml, hown, hts, hlocks, hname, hK, hSt, hKs, hBs⟩ := hC
  subst hlen
  obtain ⟨q, hq, hX⟩ := j_go_some h
  obtain ⟨x, y, r, rfl, rfl, hne⟩ := j_ld_some hq
  cases hX
  exact lv_ldiv hx hb hd hne (kk H locs ls hl hH hS)
theorem j_s_lrem (hC : j_Cx g ad B D cA cl TW zs ks own nm cc nL p s m args meth c) (hkd : j_kd cl TW df ∧ cl[99]? = none ∧ ∀ rr : vw_C, cl[4]? = some rr → rr.1 = "HundredWords$Row") (hd : decode cc pc = .ok (.lrem, len)) (hlen : len = j_len (.lrem)) (hlk : j_lk own nm cl TW zs ks pc (.lrem, len, l1, l2, val, ty)) (h : jstep df nL pc (.lrem, len, l1, l2, val, ty) lv st hp = some (pc', lv', st', hp', dc, ds)) (hl : lv_has ls nL (j_sl g lv)) (hH : j_H g ad B D cA cl s H hp) (hS : va_S (j_A B) s.heap H locs) (hc : cells + dc ≤ R.cells) (hs : slots + ds ≤ R.slots)
    (kk : ∀ (H' : Heap) (locs' : List Loc) (ls' : Array Slot), lv_has ls' nL (j_sl g lv') → j_H g ad B D cA cl s H' hp' → va_S (j_A B) s.heap H' locs' → W p l e R s m args below meth c H' locs' (cells + dc) (slots + ds) Q (F0 m pc' ls' (st'.map (j_rv g)))) : W p l e R s m args below meth c H locs cells slots Q (F0 m pc ls (st.map (j_rv g))) := by
  obtain ⟨hG, hx, hb, hml, hown, hts, hlocks, hname, hK, hSt, hKs, hBs⟩ := hC
  subst hlen
  obtain ⟨q, hq, hX⟩ := j_go_some h
  obtain ⟨x, y, r, rfl, rfl, hne⟩ := j_ld_some hq
  cases hX
  exact lv_lrem hx hb hd hne (kk H locs ls hl hH hS)
theorem j_s_lcmp (hC : j_Cx g ad B D cA cl TW zs ks own nm cc nL p s m args meth c) (hkd : j_kd cl TW df ∧ cl[99]? = none ∧ ∀ rr : vw_C, cl[4]? = some rr → rr.1 = "HundredWords$Row") (hd : decode cc pc = .ok (.lcmp, len)) (hlen : len = j_len (.lcmp)) (hlk : j_lk own nm cl TW zs ks pc (.lcmp, len, l1, l2, val, ty)) (h : jstep df nL pc (.lcmp, len, l1, l2, val, ty) lv st hp = some (pc', lv', st', hp', dc, ds)) (hl : lv_has ls nL (j_sl g lv)) (hH : j_H g ad B D cA cl s H hp) (hS : va_S (j_A B) s.heap H locs) (hc : cells + dc ≤ R.cells) (hs : slots + ds ≤ R.slots)
    (kk : ∀ (H' : Heap) (locs' : List Loc) (ls' : Array Slot), lv_has ls' nL (j_sl g lv') → j_H g ad B D cA cl s H' hp' → va_S (j_A B) s.heap H' locs' → W p l e R s m args below meth c H' locs' (cells + dc) (slots + ds) Q (F0 m pc' ls' (st'.map (j_rv g)))) : W p l e R s m args below meth c H locs cells slots Q (F0 m pc ls (st.map (j_rv g))) := by
  obtain ⟨hG, hx, hb, hml, hown, hts, hlocks, hname, hK, hSt, hKs, hBs⟩ := hC
  subst hlen
  obtain ⟨q, hq, hX⟩ := j_go_some h
  split at hq
  · cases hq
    cases hX
    exact W.lcmp hx hb hd (kk H locs ls hl hH hS)
  · cases hq
theorem j_s_ineg (hC : j_Cx g ad B D cA cl TW zs ks own nm cc nL p s m args meth c) (hkd : j_kd cl TW df ∧ cl[99]? = none ∧ ∀ rr : vw_C, cl[4]? = some rr → rr.1 = "HundredWords$Row") (hd : decode cc pc = .ok (.ineg, len)) (hlen : len = j_len (.ineg)) (hlk : j_lk own nm cl TW zs ks pc (.ineg, len, l1, l2, val, ty)) (h : jstep df nL pc (.ineg, len, l1, l2, val, ty) lv st hp = some (pc', lv', st', hp', dc, ds)) (hl : lv_has ls nL (j_sl g lv)) (hH : j_H g ad B D cA cl s H hp) (hS : va_S (j_A B) s.heap H locs) (hc : cells + dc ≤ R.cells) (hs : slots + ds ≤ R.slots)
    (kk : ∀ (H' : Heap) (locs' : List Loc) (ls' : Array Slot), lv_has ls' nL (j_sl g lv') → j_H g ad B D cA cl s H' hp' → va_S (j_A B) s.heap H' locs' → W p l e R s m args below meth c H' locs' (cells + dc) (slots + ds) Q (F0 m pc' ls' (st'.map (j_rv g)))) : W p l e R s m args below meth c H locs cells slots Q (F0 m pc ls (st.map (j_rv g))) := by
  obtain ⟨hG, hx, hb, hml, hown, hts, hlocks, hname, hK, hSt, hKs, hBs⟩ := hC
  subst hlen
  obtain ⟨q, hq, hX⟩ := j_go_some h
  split at hq
  · cases hq
    cases hX
    exact lv_ineg hx hb hd (kk H locs ls hl hH hS)
  · cases hq
theorem j_s_lneg (hC : j_Cx g ad B D cA cl TW zs ks own nm cc nL p s m args meth c) (hkd : j_kd cl TW df ∧ cl[99]? = none ∧ ∀ rr : vw_C, cl[4]? = some rr → rr.1 = "HundredWords$Row") (hd : decode cc pc = .ok (.lneg, len)) (hlen : len = j_len (.lneg)) (hlk : j_lk own nm cl TW zs ks pc (.lneg, len, l1, l2, val, ty)) (h : jstep df nL pc (.lneg, len, l1, l2, val, ty) lv st hp = some (pc', lv', st', hp', dc, ds)) (hl : lv_has ls nL (j_sl g lv)) (hH : j_H g ad B D cA cl s H hp) (hS : va_S (j_A B) s.heap H locs) (hc : cells + dc ≤ R.cells) (hs : slots + ds ≤ R.slots)
    (kk : ∀ (H' : Heap) (locs' : List Loc) (ls' : Array Slot), lv_has ls' nL (j_sl g lv') → j_H g ad B D cA cl s H' hp' → va_S (j_A B) s.heap H' locs' → W p l e R s m args below meth c H' locs' (cells + dc) (slots + ds) Q (F0 m pc' ls' (st'.map (j_rv g)))) : W p l e R s m args below meth c H locs cells slots Q (F0 m pc ls (st.map (j_rv g))) := by
  obtain ⟨hG, hx, hb, hml, hown, hts, hlocks, hname, hK, hSt, hKs, hBs⟩ := hC
  subst hlen
  obtain ⟨q, hq, hX⟩ := j_go_some h
  split at hq
  · cases hq
    cases hX
    exact lv_lneg hx hb hd (kk H locs ls hl hH hS)
  · cases hq
theorem j_s_i2l (hC : j_Cx g ad B D cA cl TW zs ks own nm cc nL p s m args meth c) (hkd : j_kd cl TW df ∧ cl[99]? = none ∧ ∀ rr : vw_C, cl[4]? = some rr → rr.1 = "HundredWords$Row") (hd : decode cc pc = .ok (.i2l, len)) (hlen : len = j_len (.i2l)) (hlk : j_lk own nm cl TW zs ks pc (.i2l, len, l1, l2, val, ty)) (h : jstep df nL pc (.i2l, len, l1, l2, val, ty) lv st hp = some (pc', lv', st', hp', dc, ds)) (hl : lv_has ls nL (j_sl g lv)) (hH : j_H g ad B D cA cl s H hp) (hS : va_S (j_A B) s.heap H locs) (hc : cells + dc ≤ R.cells) (hs : slots + ds ≤ R.slots)
    (kk : ∀ (H' : Heap) (locs' : List Loc) (ls' : Array Slot), lv_has ls' nL (j_sl g lv') → j_H g ad B D cA cl s H' hp' → va_S (j_A B) s.heap H' locs' → W p l e R s m args below meth c H' locs' (cells + dc) (slots + ds) Q (F0 m pc' ls' (st'.map (j_rv g)))) : W p l e R s m args below meth c H locs cells slots Q (F0 m pc ls (st.map (j_rv g))) := by
  obtain ⟨hG, hx, hb, hml, hown, hts, hlocks, hname, hK, hSt, hKs, hBs⟩ := hC
  subst hlen
  obtain ⟨q, hq, hX⟩ := j_go_some h
  split at hq
  · cases hq
    cases hX
    exact lv_i2l hx hb hd rfl (kk H locs ls hl hH hS)
  · cases hq
theorem j_s_l2i (hC : j_Cx g ad B D cA cl TW zs ks own nm cc nL p s m args meth c) (hkd : j_kd cl TW df ∧ cl[99]? = none ∧ ∀ rr : vw_C, cl[4]? = some rr → rr.1 = "HundredWords$Row") (hd : decode cc pc = .ok (.l2i, len)) (hlen : len = j_len (.l2i)) (hlk : j_lk own nm cl TW zs ks pc (.l2i, len, l1, l2, val, ty)) (h : jstep df nL pc (.l2i, len, l1, l2, val, ty) lv st hp = some (pc', lv', st', hp', dc, ds)) (hl : lv_has ls nL (j_sl g lv)) (hH : j_H g ad B D cA cl s H hp) (hS : va_S (j_A B) s.heap H locs) (hc : cells + dc ≤ R.cells) (hs : slots + ds ≤ R.slots)
    (kk : ∀ (H' : Heap) (locs' : List Loc) (ls' : Array Slot), lv_has ls' nL (j_sl g lv') → j_H g ad B D cA cl s H' hp' → va_S (j_A B) s.heap H' locs' → W p l e R s m args below meth c H' locs' (cells + dc) (slots + ds) Q (F0 m pc' ls' (st'.map (j_rv g)))) : W p l e R s m args below meth c H locs cells slots Q (F0 m pc ls (st.map (j_rv g))) := by
  obtain ⟨hG, hx, hb, hml, hown, hts, hlocks, hname, hK, hSt, hKs, hBs⟩ := hC
  subst hlen
  obtain ⟨q, hq, hX⟩ := j_go_some h
  split at hq
  · cases hq
    cases hX
    exact lv_l2i hx hb hd rfl (kk H locs ls hl hH hS)
  · cases hq
theorem j_s_i2c (hC : j_Cx g ad B D cA cl TW zs ks own nm cc nL p s m args meth c) (hkd : j_kd cl TW df ∧ cl[99]? = none ∧ ∀ rr : vw_C, cl[4]? = some rr → rr.1 = "HundredWords$Row") (hd : decode cc pc = .ok (.i2c, len)) (hlen : len = j_len (.i2c)) (hlk : j_lk own nm cl TW zs ks pc (.i2c, len, l1, l2, val, ty)) (h : jstep df nL pc (.i2c, len, l1, l2, val, ty) lv st hp = some (pc', lv', st', hp', dc, ds)) (hl : lv_has ls nL (j_sl g lv)) (hH : j_H g ad B D cA cl s H hp) (hS : va_S (j_A B) s.heap H locs) (hc : cells + dc ≤ R.cells) (hs : slots + ds ≤ R.slots)
    (kk : ∀ (H' : Heap) (locs' : List Loc) (ls' : Array Slot), lv_has ls' nL (j_sl g lv') → j_H g ad B D cA cl s H' hp' → va_S (j_A B) s.heap H' locs' → W p l e R s m args below meth c H' locs' (cells + dc) (slots + ds) Q (F0 m pc' ls' (st'.map (j_rv g)))) : W p l e R s m args below meth c H locs cells slots Q (F0 m pc ls (st.map (j_rv g))) := by
  obtain ⟨hG, hx, hb, hml, hown, hts, hlocks, hname, hK, hSt, hKs, hBs⟩ := hC
  subst hlen
  obtain ⟨q, hq, hX⟩ := j_go_some h
  split at hq
  · cases hq
    cases hX
    exact lv_i2c hx hb hd rfl (kk H locs ls hl hH hS)
  · cases hq
theorem j_s_dup (hC : j_Cx g ad B D cA cl TW zs ks own nm cc nL p s m args meth c) (hkd : j_kd cl TW df ∧ cl[99]? = none ∧ ∀ rr : vw_C, cl[4]? = some rr → rr.1 = "HundredWords$Row") (hd : decode cc pc = .ok (.dup, len)) (hlen : len = j_len (.dup)) (hlk : j_lk own nm cl TW zs ks pc (.dup, len, l1, l2, val, ty)) (h : jstep df nL pc (.dup, len, l1, l2, val, ty) lv st hp = some (pc', lv', st', hp', dc, ds)) (hl : lv_has ls nL (j_sl g lv)) (hH : j_H g ad B D cA cl s H hp) (hS : va_S (j_A B) s.heap H locs) (hc : cells + dc ≤ R.cells) (hs : slots + ds ≤ R.slots)
    (kk : ∀ (H' : Heap) (locs' : List Loc) (ls' : Array Slot), lv_has ls' nL (j_sl g lv') → j_H g ad B D cA cl s H' hp' → va_S (j_A B) s.heap H' locs' → W p l e R s m args below meth c H' locs' (cells + dc) (slots + ds) Q (F0 m pc' ls' (st'.map (j_rv g)))) : W p l e R s m args below meth c H locs cells slots Q (F0 m pc ls (st.map (j_rv g))) := by
  obtain ⟨hG, hx, hb, hml, hown, hts, hlocks, hname, hK, hSt, hKs, hBs⟩ := hC
  subst hlen
  obtain ⟨q, hq, hX⟩ := j_go_some h
  split at hq
  · rename_i v r
    cases hb1 : j_cat1 v with
    | false => rw [hb1] at hq; cases hq
    | true =>
      rw [hb1] at hq
      cases hq
      cases hX
      exact lv_dup hx hb hd (j_cat1_eq hG hb1) (kk H locs ls hl hH hS)
  · cases hq
theorem j_s_pop (hC : j_Cx g ad B D cA cl TW zs ks own nm cc nL p s m args meth c) (hkd : j_kd cl TW df ∧ cl[99]? = none ∧ ∀ rr : vw_C, cl[4]? = some rr → rr.1 = "HundredWords$Row") (hd : decode cc pc = .ok (.pop, len)) (hlen : len = j_len (.pop)) (hlk : j_lk own nm cl TW zs ks pc (.pop, len, l1, l2, val, ty)) (h : jstep df nL pc (.pop, len, l1, l2, val, ty) lv st hp = some (pc', lv', st', hp', dc, ds)) (hl : lv_has ls nL (j_sl g lv)) (hH : j_H g ad B D cA cl s H hp) (hS : va_S (j_A B) s.heap H locs) (hc : cells + dc ≤ R.cells) (hs : slots + ds ≤ R.slots)
    (kk : ∀ (H' : Heap) (locs' : List Loc) (ls' : Array Slot), lv_has ls' nL (j_sl g lv') → j_H g ad B D cA cl s H' hp' → va_S (j_A B) s.heap H' locs' → W p l e R s m args below meth c H' locs' (cells + dc) (slots + ds) Q (F0 m pc' ls' (st'.map (j_rv g)))) : W p l e R s m args below meth c H locs cells slots Q (F0 m pc ls (st.map (j_rv g))) := by
  obtain ⟨hG, hx, hb, hml, hown, hts, hlocks, hname, hK, hSt, hKs, hBs⟩ := hC
  subst hlen
  obtain ⟨q, hq, hX⟩ := j_go_some h
  split at hq
  · rename_i v r
    cases hb1 : j_cat1 v with
    | false => rw [hb1] at hq; cases hq
    | true =>
      rw [hb1] at hq
      cases hq
      cases hX
      exact lv_pop hx hb hd (j_cat1_eq hG hb1) (kk H locs ls hl hH hS)
  · cases hq
theorem j_s_dup2 (hC : j_Cx g ad B D cA cl TW zs ks own nm cc nL p s m args meth c) (hkd : j_kd cl TW df ∧ cl[99]? = none ∧ ∀ rr : vw_C, cl[4]? = some rr → rr.1 = "HundredWords$Row") (hd : decode cc pc = .ok (.dup2, len)) (hlen : len = j_len (.dup2)) (hlk : j_lk own nm cl TW zs ks pc (.dup2, len, l1, l2, val, ty)) (h : jstep df nL pc (.dup2, len, l1, l2, val, ty) lv st hp = some (pc', lv', st', hp', dc, ds)) (hl : lv_has ls nL (j_sl g lv)) (hH : j_H g ad B D cA cl s H hp) (hS : va_S (j_A B) s.heap H locs) (hc : cells + dc ≤ R.cells) (hs : slots + ds ≤ R.slots)
    (kk : ∀ (H' : Heap) (locs' : List Loc) (ls' : Array Slot), lv_has ls' nL (j_sl g lv') → j_H g ad B D cA cl s H' hp' → va_S (j_A B) s.heap H' locs' → W p l e R s m args below meth c H' locs' (cells + dc) (slots + ds) Q (F0 m pc' ls' (st'.map (j_rv g)))) : W p l e R s m args below meth c H locs cells slots Q (F0 m pc ls (st.map (j_rv g))) := by
  obtain ⟨hG, hx, hb, hml, hown, hts, hlocks, hname, hK, hSt, hKs, hBs⟩ := hC
  subst hlen
  obtain ⟨q, hq, hX⟩ := j_go_some h
  split at hq
  · rename_i v w r
    cases hb1 : j_cat1 v && j_cat1 w with
    | false => rw [hb1] at hq; cases hq
    | true =>
      rw [hb1] at hq
      cases hq
      cases hX
      rw [Bool.and_eq_true] at hb1
      exact lv_dup2_11 hx hb hd (j_cat1_eq hG hb1.1) (j_cat1_eq hG hb1.2) (kk H locs ls hl hH hS)
  · cases hq
theorem j_s_ifCond {cd : ClassFile.Cond} {off : Int} (hC : j_Cx g ad B D cA cl TW zs ks own nm cc nL p s m args meth c) (hkd : j_kd cl TW df ∧ cl[99]? = none ∧ ∀ rr : vw_C, cl[4]? = some rr → rr.1 = "HundredWords$Row") (hd : decode cc pc = .ok (.ifCond cd off, len)) (hlen : len = j_len (.ifCond cd off)) (hlk : j_lk own nm cl TW zs ks pc (.ifCond cd off, len, l1, l2, val, ty)) (h : jstep df nL pc (.ifCond cd off, len, l1, l2, val, ty) lv st hp = some (pc', lv', st', hp', dc, ds)) (hl : lv_has ls nL (j_sl g lv)) (hH : j_H g ad B D cA cl s H hp) (hS : va_S (j_A B) s.heap H locs) (hc : cells + dc ≤ R.cells) (hs : slots + ds ≤ R.slots)
    (kk : ∀ (H' : Heap) (locs' : List Loc) (ls' : Array Slot), lv_has ls' nL (j_sl g lv') → j_H g ad B D cA cl s H' hp' → va_S (j_A B) s.heap H' locs' → W p l e R s m args below meth c H' locs' (cells + dc) (slots + ds) Q (F0 m pc' ls' (st'.map (j_rv g)))) : W p l e R s m args below meth c H locs cells slots Q (F0 m pc ls (st.map (j_rv g))) := by
  obtain ⟨hG, hx, hb, hml, hown, hts, hlocks, hname, hK, hSt, hKs, hBs⟩ := hC
  subst hlen
  cases st with
  | nil => cases h
  | cons v r =>
    cases v with
    | int x =>
      change (pc : Int) + off = (l1 : Int) at hlk
      cases h
      cases cd
      · refine lv_if_eq (tgt := l1) hx hb hd hlk (fun hq => ?_) (fun hq => ?_)
        · have hk := (kk H locs ls hl hH hS)
          have e1 : j_ck .eq x 0 = true := decide_eq_true (show x = 0 from hq)
          rw [e1] at hk
          exact hk
        · have hk := (kk H locs ls hl hH hS)
          have e1 : j_ck .eq x 0 = false := decide_eq_false (show ¬ (x = 0) from hq)
          rw [e1] at hk
          exact hk
      · refine lv_if_ne (tgt := l1) hx hb hd hlk (fun hq => ?_) (fun hq => ?_)
        · have hk := (kk H locs ls hl hH hS)
          have e1 : j_ck .ne x 0 = true := decide_eq_true (show ¬ x = 0 from hq)
          rw [e1] at hk
          exact hk
        · have hk := (kk H locs ls hl hH hS)
          have e1 : j_ck .ne x 0 = false := decide_eq_false (show ¬ (¬ x = 0) from fun z => z hq)
          rw [e1] at hk
          exact hk
      · refine lv_if_lt (tgt := l1) hx hb hd hlk (fun hq => ?_) (fun hq => ?_)
        · have hk := (kk H locs ls hl hH hS)
          have e1 : j_ck .lt x 0 = true := decide_eq_true (show x < 0 from hq)
          rw [e1] at hk
          exact hk
        · have hk := (kk H locs ls hl hH hS)
          have e1 : j_ck .lt x 0 = false := decide_eq_false (show ¬ (x < 0) from hq)
          rw [e1] at hk
          exact hk
      · refine lv_if_ge (tgt := l1) hx hb hd hlk (fun hq => ?_) (fun hq => ?_)
        · have hk := (kk H locs ls hl hH hS)
          have e1 : j_ck .ge x 0 = true := decide_eq_true (show 0 ≤ x from hq)
          rw [e1] at hk
          exact hk
        · have hk := (kk H locs ls hl hH hS)
          have e1 : j_ck .ge x 0 = false := decide_eq_false (show ¬ (0 ≤ x) from hq)
          rw [e1] at hk
          exact hk
      · refine lv_if_gt (tgt := l1) hx hb hd hlk (fun hq => ?_) (fun hq => ?_)
        · have hk := (kk H locs ls hl hH hS)
          have e1 : j_ck .gt x 0 = true := decide_eq_true (show 0 < x from hq)
          rw [e1] at hk
          exact hk
        · have hk := (kk H locs ls hl hH hS)
          have e1 : j_ck .gt x 0 = false := decide_eq_false (show ¬ (0 < x) from hq)
          rw [e1] at hk
          exact hk
      · refine lv_if_le (tgt := l1) hx hb hd hlk (fun hq => ?_) (fun hq => ?_)
        · have hk := (kk H locs ls hl hH hS)
          have e1 : j_ck .le x 0 = true := decide_eq_true (show x ≤ 0 from hq)
          rw [e1] at hk
          exact hk
        · have hk := (kk H locs ls hl hH hS)
          have e1 : j_ck .le x 0 = false := decide_eq_false (show ¬ (x ≤ 0) from hq)
          rw [e1] at hk
          exact hk
    | _ => cases h
theorem j_s_if_icmp {cd : ClassFile.Cond} {off : Int} (hC : j_Cx g ad B D cA cl TW zs ks own nm cc nL p s m args meth c) (hkd : j_kd cl TW df ∧ cl[99]? = none ∧ ∀ rr : vw_C, cl[4]? = some rr → rr.1 = "HundredWords$Row") (hd : decode cc pc = .ok (.if_icmp cd off, len)) (hlen : len = j_len (.if_icmp cd off)) (hlk : j_lk own nm cl TW zs ks pc (.if_icmp cd off, len, l1, l2, val, ty)) (h : jstep df nL pc (.if_icmp cd off, len, l1, l2, val, ty) lv st hp = some (pc', lv', st', hp', dc, ds)) (hl : lv_has ls nL (j_sl g lv)) (hH : j_H g ad B D cA cl s H hp) (hS : va_S (j_A B) s.heap H locs) (hc : cells + dc ≤ R.cells) (hs : slots + ds ≤ R.slots)
    (kk : ∀ (H' : Heap) (locs' : List Loc) (ls' : Array Slot), lv_has ls' nL (j_sl g lv') → j_H g ad B D cA cl s H' hp' → va_S (j_A B) s.heap H' locs' → W p l e R s m args below meth c H' locs' (cells + dc) (slots + ds) Q (F0 m pc' ls' (st'.map (j_rv g)))) : W p l e R s m args below meth c H locs cells slots Q (F0 m pc ls (st.map (j_rv g))) := by
  obtain ⟨hG, hx, hb, hml, hown, hts, hlocks, hname, hK, hSt, hKs, hBs⟩ := hC
  subst hlen
  cases st with
  | nil => cases h
  | cons v r0 =>
    cases v with
    | int y =>
      cases r0 with
      | nil => cases h
      | cons v2 r =>
        cases v2 with
        | int x =>
          change (pc : Int) + off = (l1 : Int) at hlk
          cases h
          cases cd
          · refine lv_icmp_eq (tgt := l1) hx hb hd hlk (fun hq => ?_) (fun hq => ?_)
            · have hk := (kk H locs ls hl hH hS)
              have e1 : j_ck .eq x y = true := decide_eq_true (show x = y from hq)
              rw [e1] at hk
              exact hk
            · have hk := (kk H locs ls hl hH hS)
              have e1 : j_ck .eq x y = false := decide_eq_false (show ¬ (x = y) from hq)
              rw [e1] at hk
              exact hk
          · refine lv_icmp_ne (tgt := l1) hx hb hd hlk (fun hq => ?_) (fun hq => ?_)
            · have hk := (kk H locs ls hl hH hS)
              have e1 : j_ck .ne x y = true := decide_eq_true (show ¬ x = y from hq)
              rw [e1] at hk
              exact hk
            · have hk := (kk H locs ls hl hH hS)
              have e1 : j_ck .ne x y = false := decide_eq_false (show ¬ (¬ x = y) from fun z => z hq)
              rw [e1] at hk
              exact hk
          · refine lv_icmp_lt (tgt := l1) hx hb hd hlk (fun hq => ?_) (fun hq => ?_)
            · have hk := (kk H locs ls hl hH hS)
              have e1 : j_ck .lt x y = true := decide_eq_true (show x < y from hq)
              rw [e1] at hk
              exact hk
            · have hk := (kk H locs ls hl hH hS)
              have e1 : j_ck .lt x y = false := decide_eq_false (show ¬ (x < y) from hq)
              rw [e1] at hk
              exact hk
          · refine lv_icmp_ge (tgt := l1) hx hb hd hlk (fun hq => ?_) (fun hq => ?_)
            · have hk := (kk H locs ls hl hH hS)
              have e1 : j_ck .ge x y = true := decide_eq_true (show y ≤ x from hq)
              rw [e1] at hk
              exact hk
            · have hk := (kk H locs ls hl hH hS)
              have e1 : j_ck .ge x y = false := decide_eq_false (show ¬ (y ≤ x) from hq)
              rw [e1] at hk
              exact hk
          · refine lv_icmp_gt (tgt := l1) hx hb hd hlk (fun hq => ?_) (fun hq => ?_)
            · have hk := (kk H locs ls hl hH hS)
              have e1 : j_ck .gt x y = true := decide_eq_true (show y < x from hq)
              rw [e1] at hk
              exact hk
            · have hk := (kk H locs ls hl hH hS)
              have e1 : j_ck .gt x y = false := decide_eq_false (show ¬ (y < x) from hq)
              rw [e1] at hk
              exact hk
          · refine lv_icmp_le (tgt := l1) hx hb hd hlk (fun hq => ?_) (fun hq => ?_)
            · have hk := (kk H locs ls hl hH hS)
              have e1 : j_ck .le x y = true := decide_eq_true (show x ≤ y from hq)
              rw [e1] at hk
              exact hk
            · have hk := (kk H locs ls hl hH hS)
              have e1 : j_ck .le x y = false := decide_eq_false (show ¬ (x ≤ y) from hq)
              rw [e1] at hk
              exact hk
        | _ => cases h
    | _ => cases h
theorem j_s_goto {off : Int} (hC : j_Cx g ad B D cA cl TW zs ks own nm cc nL p s m args meth c) (hkd : j_kd cl TW df ∧ cl[99]? = none ∧ ∀ rr : vw_C, cl[4]? = some rr → rr.1 = "HundredWords$Row") (hd : decode cc pc = .ok (.goto off, len)) (hlen : len = j_len (.goto off)) (hlk : j_lk own nm cl TW zs ks pc (.goto off, len, l1, l2, val, ty)) (h : jstep df nL pc (.goto off, len, l1, l2, val, ty) lv st hp = some (pc', lv', st', hp', dc, ds)) (hl : lv_has ls nL (j_sl g lv)) (hH : j_H g ad B D cA cl s H hp) (hS : va_S (j_A B) s.heap H locs) (hc : cells + dc ≤ R.cells) (hs : slots + ds ≤ R.slots)
    (kk : ∀ (H' : Heap) (locs' : List Loc) (ls' : Array Slot), lv_has ls' nL (j_sl g lv') → j_H g ad B D cA cl s H' hp' → va_S (j_A B) s.heap H' locs' → W p l e R s m args below meth c H' locs' (cells + dc) (slots + ds) Q (F0 m pc' ls' (st'.map (j_rv g)))) : W p l e R s m args below meth c H locs cells slots Q (F0 m pc ls (st.map (j_rv g))) := by
  obtain ⟨hG, hx, hb, hml, hown, hts, hlocks, hname, hK, hSt, hKs, hBs⟩ := hC
  subst hlen
  change (pc : Int) + off = (l1 : Int) at hlk
  cases h
  exact lv_goto (tgt := l1) hx hb hd hlk (kk H locs ls hl hH hS)
theorem j_tsw_in {dflt lo hi x : Int} {offs : Array Int} {t : Nat} (h : j_tsw pc dflt lo hi offs x = some t) : ((x < lo ∨ hi < x) ∧ (pc : Int) + dflt = (t : Int)) ∨ (¬ x < lo ∧ ¬ hi < x ∧ ∃ off, offs[(x - lo).toNat]? = some off ∧ (pc : Int) + off = (t : Int)) := by
  unfold j_tsw at h
  by_cases hx : x < lo ∨ hi < x
  · simp only [hx, if_true] at h
    split at h
    · rename_i n hn
      cases h
      exact Or.inl ⟨hx, by rw [hn]; rfl⟩
    · cases h
  · simp only [hx, if_false] at h
    split at h
    · rename_i o ho
      split at h
      · rename_i n hn
        cases h
        exact Or.inr ⟨fun z => hx (Or.inl z), fun z => hx (Or.inr z), o, ho, by rw [hn]; rfl⟩
      · cases h
    · cases h
theorem j_s_tableswitch {dflt lo hi : Int} {offs : Array Int} (hC : j_Cx g ad B D cA cl TW zs ks own nm cc nL p s m args meth c) (hkd : j_kd cl TW df ∧ cl[99]? = none ∧ ∀ rr : vw_C, cl[4]? = some rr → rr.1 = "HundredWords$Row") (hd : decode cc pc = .ok (.tableswitch dflt lo hi offs, len)) (hlk : j_lk own nm cl TW zs ks pc (.tableswitch dflt lo hi offs, len, l1, l2, val, ty)) (h : jstep df nL pc (.tableswitch dflt lo hi offs, len, l1, l2, val, ty) lv st hp = some (pc', lv', st', hp', dc, ds)) (hl : lv_has ls nL (j_sl g lv)) (hH : j_H g ad B D cA cl s H hp) (hS : va_S (j_A B) s.heap H locs) (hc : cells + dc ≤ R.cells) (hs : slots + ds ≤ R.slots)
    (kk : ∀ (H' : Heap) (locs' : List Loc) (ls' : Array Slot), lv_has ls' nL (j_sl g lv') → j_H g ad B D cA cl s H' hp' → va_S (j_A B) s.heap H' locs' → W p l e R s m args below meth c H' locs' (cells + dc) (slots + ds) Q (F0 m pc' ls' (st'.map (j_rv g)))) : W p l e R s m args below meth c H locs cells slots Q (F0 m pc ls (st.map (j_rv g))) := by
  obtain ⟨hG, hx, hb, hml, hown, hts, hlocks, hname, hK, hSt, hKs, hBs⟩ := hC
  cases st with
  | nil => cases h
  | cons v r =>
    cases v with
    | int x =>
      change (match j_tsw pc dflt lo hi offs x.toInt with | some t => some (t, lv, r, hp, 0, 0) | none => none) = some _ at h
      split at h
      · rename_i t ht
        cases h
        rcases j_tsw_in ht with ⟨h1, h2⟩ | ⟨h1, h2, off, h3, h4⟩
        · exact lv_tableOut hx hb hd h1 h2 (kk H locs ls hl hH hS)
        · exact lv_tableIn hx hb hd h1 h2 h3 h4 (kk H locs ls hl hH hS)
      · cases h
    | _ => cases h
theorem j_s_lookupswitch {dflt : Int} {ps : Array (Int × Int)} (hC : j_Cx g ad B D cA cl TW zs ks own nm cc nL p s m args meth c) (hkd : j_kd cl TW df ∧ cl[99]? = none ∧ ∀ rr : vw_C, cl[4]? = some rr → rr.1 = "HundredWords$Row") (hd : decode cc pc = .ok (.lookupswitch dflt ps, len)) (hlk : j_lk own nm cl TW zs ks pc (.lookupswitch dflt ps, len, l1, l2, val, ty)) (h : jstep df nL pc (.lookupswitch dflt ps, len, l1, l2, val, ty) lv st hp = some (pc', lv', st', hp', dc, ds)) (hl : lv_has ls nL (j_sl g lv)) (hH : j_H g ad B D cA cl s H hp) (hS : va_S (j_A B) s.heap H locs) (hc : cells + dc ≤ R.cells) (hs : slots + ds ≤ R.slots)
    (kk : ∀ (H' : Heap) (locs' : List Loc) (ls' : Array Slot), lv_has ls' nL (j_sl g lv') → j_H g ad B D cA cl s H' hp' → va_S (j_A B) s.heap H' locs' → W p l e R s m args below meth c H' locs' (cells + dc) (slots + ds) Q (F0 m pc' ls' (st'.map (j_rv g)))) : W p l e R s m args below meth c H locs cells slots Q (F0 m pc ls (st.map (j_rv g))) := by
  obtain ⟨hG, hx, hb, hml, hown, hts, hlocks, hname, hK, hSt, hKs, hBs⟩ := hC
  cases st with
  | nil => cases h
  | cons v r =>
    cases v with
    | int x =>
      change (match j_lsw pc dflt ps x.toInt with | some t => some (t, lv, r, hp, 0, 0) | none => none) = some _ at h
      split at h
      · rename_i t ht
        cases h
        unfold j_lsw at ht
        split at ht
        · rename_i n hn
          cases ht
          exact lv_lookup hx hb hd hlk rfl (by rw [hn]; rfl) (kk H locs ls hl hH hS)
        · cases ht
      · cases h
    | _ => cases h
theorem j_s_getfield {i : Nat} (hC : j_Cx g ad B D cA cl TW zs ks own nm cc nL p s m args meth c) (hkd : j_kd cl TW df ∧ cl[99]? = none ∧ ∀ rr : vw_C, cl[4]? = some rr → rr.1 = "HundredWords$Row") (hd : decode cc pc = .ok (.getfield i, len)) (hlen : len = j_len (.getfield i)) (hlk : j_lk own nm cl TW zs ks pc (.getfield i, len, l1, l2, val, ty)) (h : jstep df nL pc (.getfield i, len, l1, l2, val, ty) lv st hp = some (pc', lv', st', hp', dc, ds)) (hl : lv_has ls nL (j_sl g lv)) (hH : j_H g ad B D cA cl s H hp) (hS : va_S (j_A B) s.heap H locs) (hc : cells + dc ≤ R.cells) (hs : slots + ds ≤ R.slots)
    (kk : ∀ (H' : Heap) (locs' : List Loc) (ls' : Array Slot), lv_has ls' nL (j_sl g lv') → j_H g ad B D cA cl s H' hp' → va_S (j_A B) s.heap H' locs' → W p l e R s m args below meth c H' locs' (cells + dc) (slots + ds) Q (F0 m pc' ls' (st'.map (j_rv g)))) : W p l e R s m args below meth c H locs cells slots Q (F0 m pc ls (st.map (j_rv g))) := by
  obtain ⟨hG, hx, hb, hml, hown, hts, hlocks, hname, hK, hSt, hKs, hBs⟩ := hC
  subst hlen
  obtain ⟨q, hq, hX⟩ := j_go_some h
  cases st with
  | nil => cases hq
  | cons v r =>
    cases v with
    | ref a =>
      change (match j_nth hp a with
        | some (false, ci, fs) => cond (Nat.beq ci l1 && (Nat.ble 9 a || Nat.beq ci 99)) (match j_nth fs l2 with | some v => some (v :: r) | none => none) none
        | _ => none) = some q at hq
      split at hq
      · rename_i ci fs ha
        rw [j_nth_eq] at ha
        cases hb1 : Nat.beq ci l1 && (Nat.ble 9 a || Nat.beq ci 99) with
        | false => rw [hb1] at hq; cases hq
        | true =>
          rw [hb1] at hq
          change (match j_nth fs l2 with | some v => some (v :: r) | none => none) = some q at hq
          split at hq
          · rename_i v hv
            rw [j_nth_eq] at hv
            cases hq
            cases hX
            rw [Bool.and_eq_true, Bool.or_eq_true] at hb1
            have e1 : ci = l1 := Nat.eq_of_beq_eq_true hb1.1
            have hin := hH.2.2.2 a _ ha
            have h8 : a ≠ 8 := fun e8 => by
              rw [e8, hH.2.2.1] at ha
              have e9 : ci = 98 := by
                have := Option.some.inj ha
                exact (congrArg (fun z : jc => z.2.1) this).symm
              rw [e8, e9] at hb1
              rcases hb1.2 with z | z <;> exact absurd z (by decide)
            have kk2 := kk H locs ls hl hH hS
            show W p l e R s m args below meth c H locs _ _ Q (F0 m pc ls (g a :: _))
            rw [hG.1 a h8]
            unfold j_in at hin
            rcases hlk with ⟨h1, h2, h3⟩ | ⟨h1, C, T, N, h2, h3, h4⟩
            · change l1 = 99 at h1
              by_cases hk : a < 9
              · rw [if_pos hk] at hin
                obtain ⟨-, -, q4, q5, -⟩ := hin.2 rfl (e1.trans h1)
                have hOF : va_OF "java/lang/String" (j_sf l2).1 (j_sf l2).2 (j_rv g v) (ad a) (j_A B) s H := by
                  have h2' : l2 < 2 := h2
                  match l2, h2', hv with
                  | 0, _, hv => exact q4 v hv
                  | 1, _, hv => exact q5 v hv
                obtain ⟨cf, k, fi, f, cell, g1, g2, g3, g4, g5, -⟩ := hOF
                exact W.getf hx hb hown (hts _ h3) g1 g2 g3 g4 (v := j_rv g v) g5 rfl rfl hd kk2
              · rw [if_neg hk] at hin
                obtain ⟨rr, g1, -, -⟩ := hin.2 rfl
                have z : cl[99]? = some rr := by rw [← h1, ← e1]; exact g1
                rw [hkd.2.1] at z
                cases z
            · change ¬ l1 = 99 at h1
              have hk : ¬ a < 9 := fun z => by
                rcases hb1.2 with y | y
                · exact absurd (Nat.le_of_ble_eq_true y) (Nat.not_le.mpr z)
                · exact h1 (e1.symm.trans (Nat.eq_of_beq_eq_true y))
              rw [if_neg hk] at hin
              obtain ⟨rr, g1, g2, cell, g3, g4, g5, g6⟩ := hin.2 rfl
              have hr : rr = (C, T, N) := Option.some.inj ((show cl[l1]? = some rr from e1 ▸ g1).symm.trans h2)
              subst hr
              obtain ⟨hSl, hfc, kC, hkC, hkind⟩ := hK.1 l1 _ h2
              obtain ⟨cf, kf, fi, f, hi, hsl⟩ := hSl l2 h3
              have hin2 := (hkd.1 l1 C T N h2).1
              have g7 : cell.slots[f.slot]? = some (j_rv g v) := by
                have g6' := g6 l2 h3
                subst e1
                rw [hsl, g6']
                simp [List.getD_eq_getElem?_getD, hv]
              have g8 : cell.vm ≠ .unknown := by rw [g5]; exact fun z => by cases z
              have g9 := (u_facts hfc hkC (u_lays hts hin2 h3) hi).1
              rcases h4 with h4 | ⟨host, h4⟩
              · exact W.getf hx hb hown (hts _ h4) hi g9 g3 g8 (v := j_rv g v) g7 rfl rfl hd kk2
              · exact va_Wgetf hx hb hown ((hKs.2 _ h4).2.use rfl) hi g9 g3 g8 (v := j_rv g v) g7 rfl rfl hd kk2
          · cases hq
      · cases hq
    | _ => cases hq
theorem j_s_putfield {i : Nat} (hC : j_Cx g ad B D cA cl TW zs ks own nm cc nL p s m args meth c) (hkd : j_kd cl TW df ∧ cl[99]? = none ∧ ∀ rr : vw_C, cl[4]? = some rr → rr.1 = "HundredWords$Row") (hd : decode cc pc = .ok (.putfield i, len)) (hlen : len = j_len (.putfield i)) (hlk : j_lk own nm cl TW zs ks pc (.putfield i, len, l1, l2, val, ty)) (h : jstep df nL pc (.putfield i, len, l1, l2, val, ty) lv st hp = some (pc', lv', st', hp', dc, ds)) (hl : lv_has ls nL (j_sl g lv)) (hH : j_H g ad B D cA cl s H hp) (hS : va_S (j_A B) s.heap H locs) (hc : cells + dc ≤ R.cells) (hs : slots + ds ≤ R.slots)
    (kk : ∀ (H' : Heap) (locs' : List Loc) (ls' : Array Slot), lv_has ls' nL (j_sl g lv') → j_H g ad B D cA cl s H' hp' → va_S (j_A B) s.heap H' locs' → W p l e R s m args below meth c H' locs' (cells + dc) (slots + ds) Q (F0 m pc' ls' (st'.map (j_rv g)))) : W p l e R s m args below meth c H locs cells slots Q (F0 m pc ls (st.map (j_rv g))) := by
  obtain ⟨hG, hx, hb, hml, hown, hts, hlocks, hname, hK, hSt, hKs, hBs⟩ := hC
  subst hlen
  cases st with
  | nil => cases h
  | cons v r0 =>
    cases r0 with
    | nil => cases v <;> cases h
    | cons v2 r =>
      cases v2 with
      | ref a =>
        have h' : (match j_nth hp a with
          | some (false, ci, fs) => cond (Nat.beq ci l1 && Nat.ble 9 a && j_fit ty v) (some (pc + 3, lv, r, j_set (false, ci, j_set v fs l2) hp a, 0, 0)) none
          | _ => none) = some (pc', lv', st', hp', dc, ds) := by
          cases v <;> exact h
        split at h'
        · rename_i ci fs ha
          rw [j_nth_eq] at ha
          cases hb1 : Nat.beq ci l1 && Nat.ble 9 a && j_fit ty v with
          | false => rw [hb1] at h'; cases h'
          | true =>
            rw [hb1] at h'
            cases h'
            rw [Bool.and_eq_true, Bool.and_eq_true] at hb1
            have e1 : ci = l1 := Nat.eq_of_beq_eq_true hb1.1.1
            subst e1
            have h9 := Nat.le_of_ble_eq_true hb1.1.2
            obtain ⟨hn, hfit⟩ := j_rv_fit g ad B hG hb1.2
            have hin := hH.2.2.2 a _ ha
            unfold j_in at hin
            rw [if_neg (by omega)] at hin
            obtain ⟨h1, C, T, N, h2, h3, h4, h5, h6⟩ := hlk
            obtain ⟨rr, g1, g2, cell, g3, g4, g5, g6⟩ := hin.2 rfl
            have hr : rr = (C, T, N) := Option.some.inj (g1.symm.trans h2)
            subst hr
            obtain ⟨hin2, ⟨ty0, hty, -⟩, hnm⟩ := hkd.1 ci C T N h2
            have hap := va_apart (own := own) hts hin2 ty0 hty hnm hK h2
            obtain ⟨hSl, hfc, kC, hkC, hkind⟩ := hK.1 ci _ h2
            obtain ⟨cf, kf, fi, f, hi, hsl⟩ := hSl l2 h3
            have hlay := hts _ (hin2 _ (u_in_lay h3))
            have hst := (u_facts hfc hkC (u_lays hts hin2 h3) hi).1
            have hlt : f.slot < cell.slots.size := by rw [hsl]; exact k2_hasslot (g6 l2 h3)
            have fin : ∀ H1 : Heap, H1[ad a]? = some (cell.setSlot f.slot (j_rv g v)) → H1.size = H.size → (∀ q, q ≠ ad a → H1[q]? = H[q]?) → W p l e R s m args below meth c H1 (locs ++ [⟨ad a, f.slot⟩]) cells slots Q (F0 m (pc + 3) ls (st'.map (j_rv g))) := by
              intro H1 e1 e2 e3
              refine kk H1 _ ls hl (hH.put hG ha h9 e2 e3 ?_) (hS.put e2 e3 (by show B ≤ ad a; rw [hG.2.2.1 a h9]; omega))
              unfold j_in
              rw [if_neg (by omega)]
              refine ⟨(fun z => by cases z), fun _ => ⟨_, h2, by rw [j_set_eq]; simp; exact g2, cell.setSlot f.slot (j_rv g v), e1, g4, g5, ?_⟩⟩
              rw [hsl]
              intro k hk
              have := t_set g6 hap h3 (j_rv g v) k hk
              rw [this]
              unfold updV
              rw [j_set_eq]
              by_cases hk2 : k = l2
              · subst hk2
                have : k < fs.length := by rw [g2]; exact hk
                simp [List.getD_eq_getElem?_getD, this]
              · simp [List.getD_eq_getElem?_getD, List.getElem?_set_ne (Ne.symm hk2), hk2]
            show W p l e R s m args below meth c H locs _ _ Q (F0 m pc ls (j_rv g v :: g a :: _))
            rw [hG.ref h9]
            unfold u_lay at hlay
            by_cases hf : (T l2).2.2.2 = true
            · rw [if_pos hf] at hlay
              obtain ⟨h7, h8⟩ := h6 hf
              have hcf : m.cls = cf := by
                obtain ⟨_, _, c', _, _, _, -, -, hf', -, -, -, hown2, -⟩ := Cond.laysFinal_spec hlay
                have e1 : c' = cf := by have := hi.symm.trans hf'; simp at this; exact this.1.symm
                rw [show (T l2).1 = own from h8] at hown2
                rw [← e1]; exact Option.some.inj (hown.symm.trans hown2)
              have h10 := u_fits hfc hkC hkind (Or.inr hlay) hi h5 hn hfit
              exact W.putFinK hx hb hown (hts _ h4) hi hst hcf (hname h7) (by rw [g4]; exact h10) g3 g5 hlt rfl rfl hd fin
            · rw [if_neg hf] at hlay
              have h10 := u_store hfc hkC hkind hlay hi h5 hn hfit
              exact W.putK hx hb (f := f) ⟨hown, hts _ h4, ⟨_, _, _, hi⟩, hst⟩ (by rw [g4]; exact h10) g3 g5 hlt rfl rfl hd fin
        · cases h'
      | _ => cases v <;> cases h
theorem j_s_getstatic {i : Nat} (hC : j_Cx g ad B D cA cl TW zs ks own nm cc nL p s m args meth c) (hkd : j_kd cl TW df ∧ cl[99]? = none ∧ ∀ rr : vw_C, cl[4]? = some rr → rr.1 = "HundredWords$Row") (hd : decode cc pc = .ok (.getstatic i, len)) (hlen : len = j_len (.getstatic i)) (hlk : j_lk own nm cl TW zs ks pc (.getstatic i, len, l1, l2, val, ty)) (h : jstep df nL pc (.getstatic i, len, l1, l2, val, ty) lv st hp = some (pc', lv', st', hp', dc, ds)) (hl : lv_has ls nL (j_sl g lv)) (hH : j_H g ad B D cA cl s H hp) (hS : va_S (j_A B) s.heap H locs) (hc : cells + dc ≤ R.cells) (hs : slots + ds ≤ R.slots)
    (kk : ∀ (H' : Heap) (locs' : List Loc) (ls' : Array Slot), lv_has ls' nL (j_sl g lv') → j_H g ad B D cA cl s H' hp' → va_S (j_A B) s.heap H' locs' → W p l e R s m args below meth c H' locs' (cells + dc) (slots + ds) Q (F0 m pc' ls' (st'.map (j_rv g)))) : W p l e R s m args below meth c H locs cells slots Q (F0 m pc ls (st.map (j_rv g))) := by
  obtain ⟨hG, hx, hb, hml, hown, hts, hlocks, hname, hK, hSt, hKs, hBs⟩ := hC
  subst hlen
  have h : j_go pc 3 lv hp (some (val :: st)) = some (pc', lv', st', hp', dc, ds) := h
  obtain ⟨q, hq, hX⟩ := j_go_some h
  cases hq
  cases hX
  obtain ⟨C, n, d, h1, h2⟩ := hlk
  exact va_gets hx hb (hSt _ h1) hS hown (hts _ h2) (fun _ z => z) hd (kk H locs ls hl hH hS)
theorem j_s_ldc2_w {i : Nat} (hC : j_Cx g ad B D cA cl TW zs ks own nm cc nL p s m args meth c) (hkd : j_kd cl TW df ∧ cl[99]? = none ∧ ∀ rr : vw_C, cl[4]? = some rr → rr.1 = "HundredWords$Row") (hd : decode cc pc = .ok (.ldc2_w i, len)) (hlen : len = j_len (.ldc2_w i)) (hlk : j_lk own nm cl TW zs ks pc (.ldc2_w i, len, l1, l2, val, ty)) (h : jstep df nL pc (.ldc2_w i, len, l1, l2, val, ty) lv st hp = some (pc', lv', st', hp', dc, ds)) (hl : lv_has ls nL (j_sl g lv)) (hH : j_H g ad B D cA cl s H hp) (hS : va_S (j_A B) s.heap H locs) (hc : cells + dc ≤ R.cells) (hs : slots + ds ≤ R.slots)
    (kk : ∀ (H' : Heap) (locs' : List Loc) (ls' : Array Slot), lv_has ls' nL (j_sl g lv') → j_H g ad B D cA cl s H' hp' → va_S (j_A B) s.heap H' locs' → W p l e R s m args below meth c H' locs' (cells + dc) (slots + ds) Q (F0 m pc' ls' (st'.map (j_rv g)))) : W p l e R s m args below meth c H locs cells slots Q (F0 m pc ls (st.map (j_rv g))) := by
  obtain ⟨hG, hx, hb, hml, hown, hts, hlocks, hname, hK, hSt, hKs, hBs⟩ := hC
  subst hlen
  have h : j_go pc 3 lv hp (some (val :: st)) = some (pc', lv', st', hp', dc, ds) := h
  obtain ⟨q, hq, hX⟩ := j_go_some h
  cases hq
  cases hX
  obtain ⟨x, h1, h2⟩ := hlk
  change val = .long x at h1
  subst h1
  exact lv_ldc2 hx hb hown (hts _ h2) hd (kk H locs ls hl hH hS)
theorem j_s_ldc {i : Nat} (hC : j_Cx g ad B D cA cl TW zs ks own nm cc nL p s m args meth c) (hkd : j_kd cl TW df ∧ cl[99]? = none ∧ ∀ rr : vw_C, cl[4]? = some rr → rr.1 = "HundredWords$Row") (hd : decode cc pc = .ok (.ldc i, len)) (hlen : len = j_len (.ldc i)) (hlk : j_lk own nm cl TW zs ks pc (.ldc i, len, l1, l2, val, ty)) (h : jstep df nL pc (.ldc i, len, l1, l2, val, ty) lv st hp = some (pc', lv', st', hp', dc, ds)) (hl : lv_has ls nL (j_sl g lv)) (hH : j_H g ad B D cA cl s H hp) (hS : va_S (j_A B) s.heap H locs) (hc : cells + dc ≤ R.cells) (hs : slots + ds ≤ R.slots)
    (kk : ∀ (H' : Heap) (locs' : List Loc) (ls' : Array Slot), lv_has ls' nL (j_sl g lv') → j_H g ad B D cA cl s H' hp' → va_S (j_A B) s.heap H' locs' → W p l e R s m args below meth c H' locs' (cells + dc) (slots + ds) Q (F0 m pc' ls' (st'.map (j_rv g)))) : W p l e R s m args below meth c H locs cells slots Q (F0 m pc ls (st.map (j_rv g))) := by
  obtain ⟨hG, hx, hb, hml, hown, hts, hlocks, hname, hK, hSt, hKs, hBs⟩ := hC
  subst hlen
  have h : j_go pc 2 lv hp (some (val :: st)) = some (pc', lv', st', hp', dc, ds) := h
  obtain ⟨q, hq, hX⟩ := j_go_some h
  cases hq
  cases hX
  obtain ⟨tx, h1⟩ := hlk
  obtain ⟨a, h2, h3⟩ := hKs.1 _ h1
  have kk2 := kk H locs ls hl hH hS
  change W p l e R s m args below meth c H locs _ _ Q (F0 m _ ls (j_rv g val :: st.map (j_rv g))) at kk2
  rw [show j_rv g val = .ref a from h2] at kk2
  exact va_ldcS hx hb hown h3 hd kk2
theorem j_s_arraylength (hC : j_Cx g ad B D cA cl TW zs ks own nm cc nL p s m args meth c) (hkd : j_kd cl TW df ∧ cl[99]? = none ∧ ∀ rr : vw_C, cl[4]? = some rr → rr.1 = "HundredWords$Row") (hd : decode cc pc = .ok (.arraylength, len)) (hlen : len = j_len (.arraylength)) (hlk : j_lk own nm cl TW zs ks pc (.arraylength, len, l1, l2, val, ty)) (h : jstep df nL pc (.arraylength, len, l1, l2, val, ty) lv st hp = some (pc', lv', st', hp', dc, ds)) (hl : lv_has ls nL (j_sl g lv)) (hH : j_H g ad B D cA cl s H hp) (hS : va_S (j_A B) s.heap H locs) (hc : cells + dc ≤ R.cells) (hs : slots + ds ≤ R.slots)
    (kk : ∀ (H' : Heap) (locs' : List Loc) (ls' : Array Slot), lv_has ls' nL (j_sl g lv') → j_H g ad B D cA cl s H' hp' → va_S (j_A B) s.heap H' locs' → W p l e R s m args below meth c H' locs' (cells + dc) (slots + ds) Q (F0 m pc' ls' (st'.map (j_rv g)))) : W p l e R s m args below meth c H locs cells slots Q (F0 m pc ls (st.map (j_rv g))) := by
  obtain ⟨hG, hx, hb, hml, hown, hts, hlocks, hname, hK, hSt, hKs, hBs⟩ := hC
  subst hlen
  obtain ⟨q, hq, hX⟩ := j_go_some h
  cases st with
  | nil => cases hq
  | cons v r =>
    cases v with
    | ref a =>
      change (match j_nth hp a with | some (true, _, l) => some (.int (Int32.ofNat l.length) :: r) | _ => none) = some q at hq
      split at hq
      · rename_i t la ha
        rw [j_nth_eq] at ha
        cases hq
        cases hX
        obtain ⟨cell, e1, e2, e3, e4, e5, e6, e7⟩ := j_arr hG hK hH ha
        show W p l e R s m args below meth c H locs _ _ Q (F0 m pc ls (g a :: _))
        rw [e1]
        exact W.alen hx hb e2 e3 e6 rfl rfl hd (kk H locs ls hl hH hS)
      · cases hq
    | _ => cases hq
theorem j_s_iaload (hC : j_Cx g ad B D cA cl TW zs ks own nm cc nL p s m args meth c) (hkd : j_kd cl TW df ∧ cl[99]? = none ∧ ∀ rr : vw_C, cl[4]? = some rr → rr.1 = "HundredWords$Row") (hd : decode cc pc = .ok (.iaload, len)) (hlen : len = j_len (.iaload)) (hlk : j_lk own nm cl TW zs ks pc (.iaload, len, l1, l2, val, ty)) (h : jstep df nL pc (.iaload, len, l1, l2, val, ty) lv st hp = some (pc', lv', st', hp', dc, ds)) (hl : lv_has ls nL (j_sl g lv)) (hH : j_H g ad B D cA cl s H hp) (hS : va_S (j_A B) s.heap H locs) (hc : cells + dc ≤ R.cells) (hs : slots + ds ≤ R.slots)
    (kk : ∀ (H' : Heap) (locs' : List Loc) (ls' : Array Slot), lv_has ls' nL (j_sl g lv') → j_H g ad B D cA cl s H' hp' → va_S (j_A B) s.heap H' locs' → W p l e R s m args below meth c H' locs' (cells + dc) (slots + ds) Q (F0 m pc' ls' (st'.map (j_rv g)))) : W p l e R s m args below meth c H locs cells slots Q (F0 m pc ls (st.map (j_rv g))) := by
  obtain ⟨hG, hx, hb, hml, hown, hts, hlocks, hname, hK, hSt, hKs, hBs⟩ := hC
  subst hlen
  obtain ⟨q, hq, hX⟩ := j_go_some h
  obtain ⟨i, a, r, t, la, v, rfl, ha, ht, hi, hv, rfl⟩ := j_ald_some hq
  cases hX
  have ht' : t = 0 := by simpa using ht
  subst ht'
  obtain ⟨cell, e1, e2, e3, e4, e5, e6, e7⟩ := j_arr hG hK hH ha
  show W p l e R s m args below meth c H locs _ _ Q (F0 m pc ls (.int i :: g a :: _))
  rw [e1]
  have hlt := (List.getElem?_eq_some_iff.mp hv).1
  exact W.iald (v := j_rv g v) hx hb e2 e3 e4 (fun z => z.elim hi (fun z => by omega)) (e7 _ _ hv) rfl rfl hd (kk H locs ls hl hH hS)
theorem j_s_laload (hC : j_Cx g ad B D cA cl TW zs ks own nm cc nL p s m args meth c) (hkd : j_kd cl TW df ∧ cl[99]? = none ∧ ∀ rr : vw_C, cl[4]? = some rr → rr.1 = "HundredWords$Row") (hd : decode cc pc = .ok (.laload, len)) (hlen : len = j_len (.laload)) (hlk : j_lk own nm cl TW zs ks pc (.laload, len, l1, l2, val, ty)) (h : jstep df nL pc (.laload, len, l1, l2, val, ty) lv st hp = some (pc', lv', st', hp', dc, ds)) (hl : lv_has ls nL (j_sl g lv)) (hH : j_H g ad B D cA cl s H hp) (hS : va_S (j_A B) s.heap H locs) (hc : cells + dc ≤ R.cells) (hs : slots + ds ≤ R.slots)
    (kk : ∀ (H' : Heap) (locs' : List Loc) (ls' : Array Slot), lv_has ls' nL (j_sl g lv') → j_H g ad B D cA cl s H' hp' → va_S (j_A B) s.heap H' locs' → W p l e R s m args below meth c H' locs' (cells + dc) (slots + ds) Q (F0 m pc' ls' (st'.map (j_rv g)))) : W p l e R s m args below meth c H locs cells slots Q (F0 m pc ls (st.map (j_rv g))) := by
  obtain ⟨hG, hx, hb, hml, hown, hts, hlocks, hname, hK, hSt, hKs, hBs⟩ := hC
  subst hlen
  obtain ⟨q, hq, hX⟩ := j_go_some h
  obtain ⟨i, a, r, t, la, v, rfl, ha, ht, hi, hv, rfl⟩ := j_ald_some hq
  cases hX
  have ht' : t = 1 := by simpa using ht
  subst ht'
  obtain ⟨cell, e1, e2, e3, e4, e5, e6, e7⟩ := j_arr hG hK hH ha
  show W p l e R s m args below meth c H locs _ _ Q (F0 m pc ls (.int i :: g a :: _))
  rw [e1]
  have hlt := (List.getElem?_eq_some_iff.mp hv).1
  exact W.lald (v := j_rv g v) hx hb e2 e3 e4 (fun z => z.elim hi (fun z => by omega)) (e7 _ _ hv) rfl rfl hd (kk H locs ls hl hH hS)
theorem j_s_caload (hC : j_Cx g ad B D cA cl TW zs ks own nm cc nL p s m args meth c) (hkd : j_kd cl TW df ∧ cl[99]? = none ∧ ∀ rr : vw_C, cl[4]? = some rr → rr.1 = "HundredWords$Row") (hd : decode cc pc = .ok (.caload, len)) (hlen : len = j_len (.caload)) (hlk : j_lk own nm cl TW zs ks pc (.caload, len, l1, l2, val, ty)) (h : jstep df nL pc (.caload, len, l1, l2, val, ty) lv st hp = some (pc', lv', st', hp', dc, ds)) (hl : lv_has ls nL (j_sl g lv)) (hH : j_H g ad B D cA cl s H hp) (hS : va_S (j_A B) s.heap H locs) (hc : cells + dc ≤ R.cells) (hs : slots + ds ≤ R.slots)
    (kk : ∀ (H' : Heap) (locs' : List Loc) (ls' : Array Slot), lv_has ls' nL (j_sl g lv') → j_H g ad B D cA cl s H' hp' → va_S (j_A B) s.heap H' locs' → W p l e R s m args below meth c H' locs' (cells + dc) (slots + ds) Q (F0 m pc' ls' (st'.map (j_rv g)))) : W p l e R s m args below meth c H locs cells slots Q (F0 m pc ls (st.map (j_rv g))) := by
  obtain ⟨hG, hx, hb, hml, hown, hts, hlocks, hname, hK, hSt, hKs, hBs⟩ := hC
  subst hlen
  obtain ⟨q, hq, hX⟩ := j_go_some h
  obtain ⟨i, a, r, t, la, v, rfl, ha, ht, hi, hv, rfl⟩ := j_ald_some hq
  cases hX
  have ht' : t = 2 := by simpa using ht
  subst ht'
  obtain ⟨cell, e1, e2, e3, e4, e5, e6, e7⟩ := j_arr hG hK hH ha
  show W p l e R s m args below meth c H locs _ _ Q (F0 m pc ls (.int i :: g a :: _))
  rw [e1]
  have hlt := (List.getElem?_eq_some_iff.mp hv).1
  exact W.cald (v := j_rv g v) hx hb e2 e3 e4 (fun z => z.elim hi (fun z => by omega)) (e7 _ _ hv) rfl rfl hd (kk H locs ls hl hH hS)
theorem j_s_aaload (hC : j_Cx g ad B D cA cl TW zs ks own nm cc nL p s m args meth c) (hkd : j_kd cl TW df ∧ cl[99]? = none ∧ ∀ rr : vw_C, cl[4]? = some rr → rr.1 = "HundredWords$Row") (hd : decode cc pc = .ok (.aaload, len)) (hlen : len = j_len (.aaload)) (hlk : j_lk own nm cl TW zs ks pc (.aaload, len, l1, l2, val, ty)) (h : jstep df nL pc (.aaload, len, l1, l2, val, ty) lv st hp = some (pc', lv', st', hp', dc, ds)) (hl : lv_has ls nL (j_sl g lv)) (hH : j_H g ad B D cA cl s H hp) (hS : va_S (j_A B) s.heap H locs) (hc : cells + dc ≤ R.cells) (hs : slots + ds ≤ R.slots)
    (kk : ∀ (H' : Heap) (locs' : List Loc) (ls' : Array Slot), lv_has ls' nL (j_sl g lv') → j_H g ad B D cA cl s H' hp' → va_S (j_A B) s.heap H' locs' → W p l e R s m args below meth c H' locs' (cells + dc) (slots + ds) Q (F0 m pc' ls' (st'.map (j_rv g)))) : W p l e R s m args below meth c H locs cells slots Q (F0 m pc ls (st.map (j_rv g))) := by
  obtain ⟨hG, hx, hb, hml, hown, hts, hlocks, hname, hK, hSt, hKs, hBs⟩ := hC
  subst hlen
  obtain ⟨q, hq, hX⟩ := j_go_some h
  obtain ⟨i, a, r, t, la, v, rfl, ha, ht, hi, hv, rfl⟩ := j_ald_some hq
  cases hX
  have ht' : t = 4 := by simpa using ht
  subst ht'
  obtain ⟨cell, e1, e2, e3, e4, e5, e6, e7⟩ := j_arr hG hK hH ha
  show W p l e R s m args below meth c H locs _ _ Q (F0 m pc ls (.int i :: g a :: _))
  rw [e1]
  have hlt := (List.getElem?_eq_some_iff.mp hv).1
  exact W.aald (v := j_rv g v) hx hb e2 e3 rfl e4 (fun z => z.elim hi (fun z => by omega)) (e7 _ _ hv) rfl rfl hd (kk H locs ls hl hH hS)
theorem j_s_baload (hC : j_Cx g ad B D cA cl TW zs ks own nm cc nL p s m args meth c) (hkd : j_kd cl TW df ∧ cl[99]? = none ∧ ∀ rr : vw_C, cl[4]? = some rr → rr.1 = "HundredWords$Row") (hd : decode cc pc = .ok (.baload, len)) (hlen : len = j_len (.baload)) (hlk : j_lk own nm cl TW zs ks pc (.baload, len, l1, l2, val, ty)) (h : jstep df nL pc (.baload, len, l1, l2, val, ty) lv st hp = some (pc', lv', st', hp', dc, ds)) (hl : lv_has ls nL (j_sl g lv)) (hH : j_H g ad B D cA cl s H hp) (hS : va_S (j_A B) s.heap H locs) (hc : cells + dc ≤ R.cells) (hs : slots + ds ≤ R.slots)
    (kk : ∀ (H' : Heap) (locs' : List Loc) (ls' : Array Slot), lv_has ls' nL (j_sl g lv') → j_H g ad B D cA cl s H' hp' → va_S (j_A B) s.heap H' locs' → W p l e R s m args below meth c H' locs' (cells + dc) (slots + ds) Q (F0 m pc' ls' (st'.map (j_rv g)))) : W p l e R s m args below meth c H locs cells slots Q (F0 m pc ls (st.map (j_rv g))) := by
  obtain ⟨hG, hx, hb, hml, hown, hts, hlocks, hname, hK, hSt, hKs, hBs⟩ := hC
  subst hlen
  obtain ⟨q, hq, hX⟩ := j_go_some h
  obtain ⟨i, a, r, t, la, v, rfl, ha, ht, hi, hv, rfl⟩ := j_ald_some hq
  cases hX
  obtain ⟨cell, e1, e2, e3, e4, e5, e6, e7⟩ := j_arr hG hK hH ha
  show W p l e R s m args below meth c H locs _ _ Q (F0 m pc ls (.int i :: g a :: _))
  rw [e1]
  have hlt := (List.getElem?_eq_some_iff.mp hv).1
  have ht' : t = 3 ∨ t = 5 := by simpa using ht
  rcases ht' with rfl | rfl
  · exact W.zald (v := j_rv g v) hx hb e2 e3 e4 (fun z => z.elim hi (fun z => by omega)) (e7 _ _ hv) rfl rfl hd (kk H locs ls hl hH hS)
  · exact W.bald (v := j_rv g v) hx hb e2 e3 e4 (fun z => z.elim hi (fun z => by omega)) (e7 _ _ hv) rfl rfl hd (kk H locs ls hl hH hS)
theorem j_s_iastore (hC : j_Cx g ad B D cA cl TW zs ks own nm cc nL p s m args meth c) (hkd : j_kd cl TW df ∧ cl[99]? = none ∧ ∀ rr : vw_C, cl[4]? = some rr → rr.1 = "HundredWords$Row") (hd : decode cc pc = .ok (.iastore, len)) (hlen : len = j_len (.iastore)) (hlk : j_lk own nm cl TW zs ks pc (.iastore, len, l1, l2, val, ty)) (h : jstep df nL pc (.iastore, len, l1, l2, val, ty) lv st hp = some (pc', lv', st', hp', dc, ds)) (hl : lv_has ls nL (j_sl g lv)) (hH : j_H g ad B D cA cl s H hp) (hS : va_S (j_A B) s.heap H locs) (hc : cells + dc ≤ R.cells) (hs : slots + ds ≤ R.slots)
    (kk : ∀ (H' : Heap) (locs' : List Loc) (ls' : Array Slot), lv_has ls' nL (j_sl g lv') → j_H g ad B D cA cl s H' hp' → va_S (j_A B) s.heap H' locs' → W p l e R s m args below meth c H' locs' (cells + dc) (slots + ds) Q (F0 m pc' ls' (st'.map (j_rv g)))) : W p l e R s m args below meth c H locs cells slots Q (F0 m pc ls (st.map (j_rv g))) := by
  obtain ⟨hG, hx, hb, hml, hown, hts, hlocks, hname, hK, hSt, hKs, hBs⟩ := hC
  subst hlen
  cases st with
  | nil => cases h
  | cons v r0 =>
    cases v with
    | int x =>
      cases r0 with
      | nil => cases h
      | cons v2 r1 =>
        cases v2 with
        | int i =>
          cases r1 with
          | nil => cases h
          | cons v3 r =>
            cases v3 with
            | ref a =>
              change (match j_ast hp a 0 i (.int x) with | some hp' => some (pc + 1, lv, r, hp', 0, 0) | none => none) = some _ at h
              split at h
              · rename_i hp2 hq
                cases h
                obtain ⟨la, ha, h9, hi, hlt, rfl⟩ := j_ast_some hq
                obtain ⟨cell, e1, e2, e3, e4, e5, e6, e7⟩ := j_arr hG hK hH ha
                show W p l e R s m args below meth c H locs _ _ Q (F0 m pc ls (.int x :: .int i :: g a :: _))
                rw [e1]
                refine W.iast hx hb e2 e3 e4 (fun z => z.elim hi (fun z => by omega)) rfl rfl hd (fun H1 f1 f2 f3 => ?_)
                refine kk H1 _ ls hl (j_stored (v := .int x) hG hH ha h9 hlt f2 f3 (fun cell2 hc2 => ?_)) (hS.put f2 f3 (by show B ≤ ad a; rw [hG.2.2.1 a h9]; omega))
                cases hc2.symm.trans e2
                exact f1
              · cases h
            | _ => cases h
        | _ => cases h
    | _ => cases h
theorem j_s_lastore (hC : j_Cx g ad B D cA cl TW zs ks own nm cc nL p s m args meth c) (hkd : j_kd cl TW df ∧ cl[99]? = none ∧ ∀ rr : vw_C, cl[4]? = some rr → rr.1 = "HundredWords$Row") (hd : decode cc pc = .ok (.lastore, len)) (hlen : len = j_len (.lastore)) (hlk : j_lk own nm cl TW zs ks pc (.lastore, len, l1, l2, val, ty)) (h : jstep df nL pc (.lastore, len, l1, l2, val, ty) lv st hp = some (pc', lv', st', hp', dc, ds)) (hl : lv_has ls nL (j_sl g lv)) (hH : j_H g ad B D cA cl s H hp) (hS : va_S (j_A B) s.heap H locs) (hc : cells + dc ≤ R.cells) (hs : slots + ds ≤ R.slots)
    (kk : ∀ (H' : Heap) (locs' : List Loc) (ls' : Array Slot), lv_has ls' nL (j_sl g lv') → j_H g ad B D cA cl s H' hp' → va_S (j_A B) s.heap H' locs' → W p l e R s m args below meth c H' locs' (cells + dc) (slots + ds) Q (F0 m pc' ls' (st'.map (j_rv g)))) : W p l e R s m args below meth c H locs cells slots Q (F0 m pc ls (st.map (j_rv g))) := by
  obtain ⟨hG, hx, hb, hml, hown, hts, hlocks, hname, hK, hSt, hKs, hBs⟩ := hC
  subst hlen
  cases st with
  | nil => cases h
  | cons v r0 =>
    cases v with
    | long x =>
      cases r0 with
      | nil => cases h
      | cons v2 r1 =>
        cases v2 with
        | int i =>
          cases r1 with
          | nil => cases h
          | cons v3 r =>
            cases v3 with
            | ref a =>
              change (match j_ast hp a 1 i (.long x) with | some hp' => some (pc + 1, lv, r, hp', 0, 0) | none => none) = some _ at h
              split at h
              · rename_i hp2 hq
                cases h
                obtain ⟨la, ha, h9, hi, hlt, rfl⟩ := j_ast_some hq
                obtain ⟨cell, e1, e2, e3, e4, e5, e6, e7⟩ := j_arr hG hK hH ha
                show W p l e R s m args below meth c H locs _ _ Q (F0 m pc ls (.long x :: .int i :: g a :: _))
                rw [e1]
                refine W.last hx hb e2 e3 e4 (fun z => z.elim hi (fun z => by omega)) rfl rfl hd (fun H1 f1 f2 f3 => ?_)
                refine kk H1 _ ls hl (j_stored (v := .long x) hG hH ha h9 hlt f2 f3 (fun cell2 hc2 => ?_)) (hS.put f2 f3 (by show B ≤ ad a; rw [hG.2.2.1 a h9]; omega))
                cases hc2.symm.trans e2
                exact f1
              · cases h
            | _ => cases h
        | _ => cases h
    | _ => cases h
theorem j_s_castore (hC : j_Cx g ad B D cA cl TW zs ks own nm cc nL p s m args meth c) (hkd : j_kd cl TW df ∧ cl[99]? = none ∧ ∀ rr : vw_C, cl[4]? = some rr → rr.1 = "HundredWords$Row") (hd : decode cc pc = .ok (.castore, len)) (hlen : len = j_len (.castore)) (hlk : j_lk own nm cl TW zs ks pc (.castore, len, l1, l2, val, ty)) (h : jstep df nL pc (.castore, len, l1, l2, val, ty) lv st hp = some (pc', lv', st', hp', dc, ds)) (hl : lv_has ls nL (j_sl g lv)) (hH : j_H g ad B D cA cl s H hp) (hS : va_S (j_A B) s.heap H locs) (hc : cells + dc ≤ R.cells) (hs : slots + ds ≤ R.slots)
    (kk : ∀ (H' : Heap) (locs' : List Loc) (ls' : Array Slot), lv_has ls' nL (j_sl g lv') → j_H g ad B D cA cl s H' hp' → va_S (j_A B) s.heap H' locs' → W p l e R s m args below meth c H' locs' (cells + dc) (slots + ds) Q (F0 m pc' ls' (st'.map (j_rv g)))) : W p l e R s m args below meth c H locs cells slots Q (F0 m pc ls (st.map (j_rv g))) := by
  obtain ⟨hG, hx, hb, hml, hown, hts, hlocks, hname, hK, hSt, hKs, hBs⟩ := hC
  subst hlen
  cases st with
  | nil => cases h
  | cons v r0 =>
    cases v with
    | int x =>
      cases r0 with
      | nil => cases h
      | cons v2 r1 =>
        cases v2 with
        | int i =>
          cases r1 with
          | nil => cases h
          | cons v3 r =>
            cases v3 with
            | ref a =>
              change (match j_ast hp a 2 i (narrow .char (.int x)) with | some hp' => some (pc + 1, lv, r, hp', 0, 0) | none => none) = some _ at h
              split at h
              · rename_i hp2 hq
                cases h
                obtain ⟨la, ha, h9, hi, hlt, rfl⟩ := j_ast_some hq
                obtain ⟨cell, e1, e2, e3, e4, e5, e6, e7⟩ := j_arr hG hK hH ha
                show W p l e R s m args below meth c H locs _ _ Q (F0 m pc ls (.int x :: .int i :: g a :: _))
                rw [e1]
                refine W.cast hx hb e2 e3 e4 (fun z => z.elim hi (fun z => by omega)) rfl rfl hd (fun H1 f1 f2 f3 => ?_)
                refine kk H1 _ ls hl (j_stored (v := narrow .char (.int x)) hG hH ha h9 hlt f2 f3 (fun cell2 hc2 => ?_)) (hS.put f2 f3 (by show B ≤ ad a; rw [hG.2.2.1 a h9]; omega))
                cases hc2.symm.trans e2
                exact f1
              · cases h
            | _ => cases h
        | _ => cases h
    | _ => cases h
theorem j_s_bastore (hC : j_Cx g ad B D cA cl TW zs ks own nm cc nL p s m args meth c) (hkd : j_kd cl TW df ∧ cl[99]? = none ∧ ∀ rr : vw_C, cl[4]? = some rr → rr.1 = "HundredWords$Row") (hd : decode cc pc = .ok (.bastore, len)) (hlen : len = j_len (.bastore)) (hlk : j_lk own nm cl TW zs ks pc (.bastore, len, l1, l2, val, ty)) (h : jstep df nL pc (.bastore, len, l1, l2, val, ty) lv st hp = some (pc', lv', st', hp', dc, ds)) (hl : lv_has ls nL (j_sl g lv)) (hH : j_H g ad B D cA cl s H hp) (hS : va_S (j_A B) s.heap H locs) (hc : cells + dc ≤ R.cells) (hs : slots + ds ≤ R.slots)
    (kk : ∀ (H' : Heap) (locs' : List Loc) (ls' : Array Slot), lv_has ls' nL (j_sl g lv') → j_H g ad B D cA cl s H' hp' → va_S (j_A B) s.heap H' locs' → W p l e R s m args below meth c H' locs' (cells + dc) (slots + ds) Q (F0 m pc' ls' (st'.map (j_rv g)))) : W p l e R s m args below meth c H locs cells slots Q (F0 m pc ls (st.map (j_rv g))) := by
  obtain ⟨hG, hx, hb, hml, hown, hts, hlocks, hname, hK, hSt, hKs, hBs⟩ := hC
  subst hlen
  cases st with
  | nil => cases h
  | cons v r0 =>
    cases v with
    | int x =>
      cases r0 with
      | nil => cases h
      | cons v2 r1 =>
        cases v2 with
        | int i =>
          cases r1 with
          | nil => cases h
          | cons v3 r =>
            cases v3 with
            | ref a =>
              change (match j_ast hp a 3 i (narrow .boolean (.int x)) with | some hp' => some (pc + 1, lv, r, hp', 0, 0) | none => none) = some _ at h
              split at h
              · rename_i hp2 hq
                cases h
                obtain ⟨la, ha, h9, hi, hlt, rfl⟩ := j_ast_some hq
                obtain ⟨cell, e1, e2, e3, e4, e5, e6, e7⟩ := j_arr hG hK hH ha
                show W p l e R s m args below meth c H locs _ _ Q (F0 m pc ls (.int x :: .int i :: g a :: _))
                rw [e1]
                refine W.zast hx hb e2 e3 e4 (fun z => z.elim hi (fun z => by omega)) rfl rfl hd (fun H1 f1 f2 f3 => ?_)
                refine kk H1 _ ls hl (j_stored (v := narrow .boolean (.int x)) hG hH ha h9 hlt f2 f3 (fun cell2 hc2 => ?_)) (hS.put f2 f3 (by show B ≤ ad a; rw [hG.2.2.1 a h9]; omega))
                cases hc2.symm.trans e2
                exact f1
              · cases h
            | _ => cases h
        | _ => cases h
    | _ => cases h
theorem j_s_aastore (hC : j_Cx g ad B D cA cl TW zs ks own nm cc nL p s m args meth c) (hkd : j_kd cl TW df ∧ cl[99]? = none ∧ ∀ rr : vw_C, cl[4]? = some rr → rr.1 = "HundredWords$Row") (hd : decode cc pc = .ok (.aastore, len)) (hlen : len = j_len (.aastore)) (hlk : j_lk own nm cl TW zs ks pc (.aastore, len, l1, l2, val, ty)) (h : jstep df nL pc (.aastore, len, l1, l2, val, ty) lv st hp = some (pc', lv', st', hp', dc, ds)) (hl : lv_has ls nL (j_sl g lv)) (hH : j_H g ad B D cA cl s H hp) (hS : va_S (j_A B) s.heap H locs) (hc : cells + dc ≤ R.cells) (hs : slots + ds ≤ R.slots)
    (kk : ∀ (H' : Heap) (locs' : List Loc) (ls' : Array Slot), lv_has ls' nL (j_sl g lv') → j_H g ad B D cA cl s H' hp' → va_S (j_A B) s.heap H' locs' → W p l e R s m args below meth c H' locs' (cells + dc) (slots + ds) Q (F0 m pc' ls' (st'.map (j_rv g)))) : W p l e R s m args below meth c H locs cells slots Q (F0 m pc ls (st.map (j_rv g))) := by
  obtain ⟨hG, hx, hb, hml, hown, hts, hlocks, hname, hK, hSt, hKs, hBs⟩ := hC
  subst hlen
  cases st with
  | nil => cases h
  | cons v r0 =>
    cases v with
    | ref x =>
      cases r0 with
      | nil => cases h
      | cons v2 r1 =>
        cases v2 with
        | int i =>
          cases r1 with
          | nil => cases h
          | cons v3 r =>
            cases v3 with
            | ref a =>
              change (match j_nth hp x with
                | some (false, ci, _) => cond (Nat.beq ci 4 && Nat.ble 9 x) (match j_ast hp a 4 i (.ref x) with | some hp' => some (pc + 1, lv, r, hp', 0, 0) | none => none) none
                | _ => none) = some _ at h
              split at h
              · rename_i ci fs hvx
                rw [j_nth_eq] at hvx
                cases hb1 : Nat.beq ci 4 && Nat.ble 9 x with
                | false => rw [hb1] at h; cases h
                | true =>
                  rw [hb1] at h
                  change (match j_ast hp a 4 i (.ref x) with | some hp' => some (pc + 1, lv, r, hp', 0, 0) | none => none) = some _ at h
                  rw [Bool.and_eq_true] at hb1
                  have e0 : ci = 4 := Nat.eq_of_beq_eq_true hb1.1
                  subst e0
                  have h9x := Nat.le_of_ble_eq_true hb1.2
                  split at h
                  · rename_i hp2 hq
                    cases h
                    obtain ⟨la, ha, h9, hi, hlt, rfl⟩ := j_ast_some hq
                    have hinx := hH.2.2.2 x _ hvx
                    unfold j_in at hinx
                    rw [if_neg (by omega)] at hinx
                    obtain ⟨rr, g1, g2, cellx, g3, g4, g5, g6⟩ := hinx.2 rfl
                    have hina := hH.2.2.2 a _ ha
                    unfold j_in at hina
                    rw [if_neg (by omega)] at hina
                    obtain ⟨ht, e2⟩ := hina.1 rfl
                    obtain ⟨kA, comp, q1, q2, q3, -⟩ : va_RA s (cA 4) (.object "HundredWords$Row") := (hK.2 4 _ (j_tys_at cA (by omega))).2
                    obtain ⟨hSl, hfc, kC, hkC, hkind⟩ := hK.1 4 _ g1
                    have hC4 : rr.1 = "HundredWords$Row" := hkd.2.2 rr g1
                    have hcomp : comp = D.1 4 := Option.some.inj (q3.symm.trans (by rw [← hC4]; exact hfc))
                    subst hcomp
                    show W p l e R s m args below meth c H locs _ _ Q (F0 m pc ls (g x :: .int i :: g a :: _))
                    rw [hG.ref h9x, hG.ref h9]
                    refine W.aast hx hb e2 (fun q z => by cases z) (fun z => by cases z) q1 q2 rfl hkC ⟨hi, by rw [arrV_size]; exact hlt⟩ g3 (fun q z => by rw [g5] at z; cases z) (by rw [g4]; exact hkC) (by rw [g4]; exact va_asg _ _) rfl rfl hd (fun H1 f1 f2 f3 => ?_)
                    refine kk H1 _ ls hl (j_stored (v := .ref x) hG hH ha h9 hlt f2 f3 (fun cell2 hc2 => ?_)) (hS.put f2 f3 (by show B ≤ ad a; rw [hG.2.2.1 a h9]; omega))
                    cases hc2.symm.trans e2
                    show _ = some (Cell.setSlot _ _ (g x))
                    rw [hG.ref h9x]
                    exact f1
                  · cases h
              · cases h
            | _ => cases h
        | _ => cases h
    | _ => cases h
theorem j_s_new {i : Nat} (hC : j_Cx g ad B D cA cl TW zs ks own nm cc nL p s m args meth c) (hkd : j_kd cl TW df ∧ cl[99]? = none ∧ ∀ rr : vw_C, cl[4]? = some rr → rr.1 = "HundredWords$Row") (hd : decode cc pc = .ok (.new i, len)) (hlen : len = j_len (.new i)) (hlk : j_lk own nm cl TW zs ks pc (.new i, len, l1, l2, val, ty)) (h : jstep df nL pc (.new i, len, l1, l2, val, ty) lv st hp = some (pc', lv', st', hp', dc, ds)) (hl : lv_has ls nL (j_sl g lv)) (hH : j_H g ad B D cA cl s H hp) (hS : va_S (j_A B) s.heap H locs) (hc : cells + dc ≤ R.cells) (hs : slots + ds ≤ R.slots)
    (kk : ∀ (H' : Heap) (locs' : List Loc) (ls' : Array Slot), lv_has ls' nL (j_sl g lv') → j_H g ad B D cA cl s H' hp' → va_S (j_A B) s.heap H' locs' → W p l e R s m args below meth c H' locs' (cells + dc) (slots + ds) Q (F0 m pc' ls' (st'.map (j_rv g)))) : W p l e R s m args below meth c H locs cells slots Q (F0 m pc ls (st.map (j_rv g))) := by
  obtain ⟨hG, hx, hb, hml, hown, hts, hlocks, hname, hK, hSt, hKs, hBs⟩ := hC
  subst hlen
  cases h
  obtain ⟨C, T, N, h1, h2, h3, h4⟩ := hlk
  change cl[l1]? = some (C, T, N) at h1
  obtain ⟨hin2, ⟨ty0, hty, hdl, hdv⟩, hnm⟩ := hkd.1 l1 C T N h1
  obtain ⟨hSl, hfc, kC0, hkC0, hkind⟩ := hK.1 l1 _ h1
  have hsz := hH.2.1
  have had := j_H_ad hG hH
  rw [hdl] at hs
  refine W.newcK hx hb hown (hts _ h2) (hts _ h3) (hts _ h4) rfl hd hc hs hfc rfl (fun H1 kC e0 e1 e2 e3 => ?_)
  cases hkC0.symm.trans e0
  have kk2 := kk H1 locs ls hl (hH.push hG e2 e3 ?_) ⟨by rw [e2]; exact Nat.le_succ_of_le hS.1, fun q q1 q2 => (e3 q (Nat.lt_of_lt_of_le q1 hS.1)).trans (hS.2.1 q q1 q2), hS.2.2⟩
  · change W p l e R s m args below meth c H1 locs _ _ Q (F0 m _ ls (g hp.length :: st.map (j_rv g))) at kk2
    rw [hG.ref hH.1, had, hdl] at kk2
    exact kk2
  · unfold j_in
    rw [if_neg (by have := hH.1; omega)]
    refine ⟨(fun z => by cases z), fun _ => ⟨_, h1, hdl, blank (D.1 l1) kC0, by rw [had]; exact e1, rfl, rfl, fun k hk => ?_⟩⟩
    obtain ⟨cf, kf, fi, f, hi, hsl⟩ := hSl k hk
    obtain ⟨-, -, hty2⟩ := u_facts hfc hkC0 (u_lays hts hin2 hk) hi
    have hdk := hdv k hk
    show (kC0.instanceTypes.map defaultValue)[D.2 l1 k]? = some (j_rv g ((df l1).getD k .null))
    rw [← hsl, Array.getElem?_map, hty2, (State.fieldFound?_type hi (hty k hk)).2]
    simp only [Option.map_some, List.getD_eq_getElem?_getD, hdk, Option.getD_some]
    congr 1
    cases ty0 k <;> rfl
theorem j_s_newarray {t : ArrayType} (hC : j_Cx g ad B D cA cl TW zs ks own nm cc nL p s m args meth c) (hkd : j_kd cl TW df ∧ cl[99]? = none ∧ ∀ rr : vw_C, cl[4]? = some rr → rr.1 = "HundredWords$Row") (hd : decode cc pc = .ok (.newarray t, len)) (hlen : len = j_len (.newarray t)) (hlk : j_lk own nm cl TW zs ks pc (.newarray t, len, l1, l2, val, ty)) (h : jstep df nL pc (.newarray t, len, l1, l2, val, ty) lv st hp = some (pc', lv', st', hp', dc, ds)) (hl : lv_has ls nL (j_sl g lv)) (hH : j_H g ad B D cA cl s H hp) (hS : va_S (j_A B) s.heap H locs) (hc : cells + dc ≤ R.cells) (hs : slots + ds ≤ R.slots)
    (kk : ∀ (H' : Heap) (locs' : List Loc) (ls' : Array Slot), lv_has ls' nL (j_sl g lv') → j_H g ad B D cA cl s H' hp' → va_S (j_A B) s.heap H' locs' → W p l e R s m args below meth c H' locs' (cells + dc) (slots + ds) Q (F0 m pc' ls' (st'.map (j_rv g)))) : W p l e R s m args below meth c H locs cells slots Q (F0 m pc ls (st.map (j_rv g))) := by
  obtain ⟨hG, hx, hb, hml, hown, hts, hlocks, hname, hK, hSt, hKs, hBs⟩ := hC
  subst hlen
  cases st with
  | nil => cases h
  | cons v r =>
    cases v with
    | int n =>
      change (if n < 0 then none else cond (Nat.ble n.toNatClampNeg 60000000) (some (pc + 2, lv, .ref hp.length :: r, hp ++ [(true, l1, List.replicate n.toNatClampNeg val)], 1, n.toNatClampNeg)) none) = some _ at h
      split at h
      · cases h
      · rename_i hn
        cases hb1 : Nat.ble n.toNatClampNeg 60000000 with
        | false => rw [hb1] at h; cases h
        | true =>
          rw [hb1] at h
          cases h
          obtain ⟨h1, h2, h3, h4⟩ := hlk
          change newarray.typeOf t = j_ty l1 at h1
          change l1 < 4 at h2
          change val = defaultValue (j_ty l1) at h4
          have hbyt : componentBytes (newarray.typeOf t) ≤ 8 := by
            rw [h1]
            match l1, h2 with
            | 0, _ => decide
            | 1, _ => decide
            | 2, _ => decide
            | 3, _ => decide
          have hle := Nat.le_of_ble_eq_true hb1
          have hbytes : n.toNatClampNeg * componentBytes (newarray.typeOf t) ≤ 536870912 := by
            have := Nat.mul_le_mul hle hbyt
            omega
          refine va_newaK hx hb (by rw [h1]; exact hts _ h3) rfl hd rfl hn rfl hbytes hc hs rfl (fun H1 cA1 e1 e2 e3 e4 e5 => ?_)
          have hcA : cA1 = cA l1 := by
            have q1 := (hK.2 l1 _ (j_tys_at cA (by omega))).2
            rw [h1] at e5
            have q2 : s.vm.findClass ("[" ++ (j_ty l1).toString) = some (cA l1) := by
              match l1, h2, q1 with
              | 0, _, q1 => exact q1
              | 1, _, q1 => exact q1
              | 2, _, q1 => exact q1
              | 3, _, q1 => exact q1
            exact Option.some.inj (e5.symm.trans q2)
          subst hcA
          have had := j_H_ad hG hH
          have kk2 := kk H1 locs ls hl (hH.push hG e2 e3 ?_) ⟨by rw [e2]; exact Nat.le_succ_of_le hS.1, fun q q1 q2 => (e3 q (Nat.lt_of_lt_of_le q1 hS.1)).trans (hS.2.1 q q1 q2), hS.2.2⟩
          · change W p l e R s m args below meth c H1 locs _ _ Q (F0 m _ ls (g hp.length :: r.map (j_rv g))) at kk2
            rw [hG.ref hH.1, had] at kk2
            exact kk2
          · unfold j_in
            rw [if_neg (by have := hH.1; omega)]
            refine ⟨fun _ => ⟨by show l1 < 6; omega, ?_⟩, (fun z => by cases z)⟩
            rw [had, e1, h1]
            show some (arrV (cA l1) _ _) = some (arrV (cA l1) (List.replicate n.toNatClampNeg val).length _)
            rw [List.length_replicate]
            congr 1
            apply arrV_congr
            intro j hj
            simp only [List.getD_eq_getElem?_getD, List.getElem?_replicate, hj, if_true, Option.getD_some]
            rw [h4]
            match l1, h2 with
            | 0, _ => rfl
            | 1, _ => rfl
            | 2, _ => rfl
            | 3, _ => rfl
    | _ => cases h
theorem j_s_anewarray {i : Nat} (hC : j_Cx g ad B D cA cl TW zs ks own nm cc nL p s m args meth c) (hkd : j_kd cl TW df ∧ cl[99]? = none ∧ ∀ rr : vw_C, cl[4]? = some rr → rr.1 = "HundredWords$Row") (hd : decode cc pc = .ok (.anewarray i, len)) (hlen : len = j_len (.anewarray i)) (hlk : j_lk own nm cl TW zs ks pc (.anewarray i, len, l1, l2, val, ty)) (h : jstep df nL pc (.anewarray i, len, l1, l2, val, ty) lv st hp = some (pc', lv', st', hp', dc, ds)) (hl : lv_has ls nL (j_sl g lv)) (hH : j_H g ad B D cA cl s H hp) (hS : va_S (j_A B) s.heap H locs) (hc : cells + dc ≤ R.cells) (hs : slots + ds ≤ R.slots)
    (kk : ∀ (H' : Heap) (locs' : List Loc) (ls' : Array Slot), lv_has ls' nL (j_sl g lv') → j_H g ad B D cA cl s H' hp' → va_S (j_A B) s.heap H' locs' → W p l e R s m args below meth c H' locs' (cells + dc) (slots + ds) Q (F0 m pc' ls' (st'.map (j_rv g)))) : W p l e R s m args below meth c H locs cells slots Q (F0 m pc ls (st.map (j_rv g))) := by
  obtain ⟨hG, hx, hb, hml, hown, hts, hlocks, hname, hK, hSt, hKs, hBs⟩ := hC
  subst hlen
  cases st with
  | nil => cases h
  | cons v r =>
    cases v with
    | int n =>
      change (if n < 0 then none else cond (Nat.ble n.toNatClampNeg 60000000) (some (pc + 3, lv, .ref hp.length :: r, hp ++ [(true, 4, List.replicate n.toNatClampNeg .null)], 1, n.toNatClampNeg)) none) = some _ at h
      split at h
      · cases h
      · rename_i hn
        cases hb1 : Nat.ble n.toNatClampNeg 60000000 with
        | false => rw [hb1] at h; cases h
        | true =>
          rw [hb1] at h
          cases h
          have hle := Nat.le_of_ble_eq_true hb1
          refine W.anew hx hb hown (hts _ hlk.1) (va_AO.use (hKs.2 _ hlk.2).2) rfl hd rfl hn (by omega) hc hs (fun cA1 kA comp e1 e2 e3 e4 => ?_)
          have hcA : cA1 = cA 4 := by
            obtain ⟨kA', comp', q1, q2, q3, q4⟩ : va_RA s (cA 4) (.object "HundredWords$Row") := (hK.2 4 _ (j_tys_at cA (by omega))).2
            exact Option.some.inj (e1.symm.trans q4)
          subst hcA
          have had := j_H_ad hG hH
          have kk2 := kk (H.push { cls := cA 4, slots := Array.replicate n.toNatClampNeg .null, vm := .none }) locs ls hl (hH.push hG (by simp) (fun q hq => by rw [Array.getElem?_push, if_neg (Nat.ne_of_lt hq)]) ?_) ⟨by simp; exact Nat.le_succ_of_le hS.1, fun q q1 q2 => by rw [Array.getElem?_push, if_neg (Nat.ne_of_lt (Nat.lt_of_lt_of_le q1 hS.1))]; exact hS.2.1 q q1 q2, hS.2.2⟩
          · change W p l e R s m args below meth c _ locs _ _ Q (F0 m _ ls (g hp.length :: r.map (j_rv g))) at kk2
            rw [hG.ref hH.1, had] at kk2
            exact kk2
          · unfold j_in
            rw [if_neg (by have := hH.1; omega)]
            refine ⟨fun _ => ⟨by show 4 < 6; omega, ?_⟩, (fun z => by cases z)⟩
            rw [had, arrV_new]
            simp only [Array.getElem?_push_size]
            show some (arrV (cA 4) _ _) = some (arrV (cA 4) (List.replicate n.toNatClampNeg Value.null).length _)
            rw [List.length_replicate]
            congr 1
            apply arrV_congr
            intro j hj
            simp only [List.getD_eq_getElem?_getD, List.getElem?_replicate, hj, if_true, Option.getD_some]
            rfl
    | _ => cases h
end JS
end
section
/-! THE SMALL MACHINE'S RUNS AGAINST THE LARGE ONE'S WALKS. -/
def j_cal (yn : Nat → MethodName) (bt : Nat → ByteArray) (rt : Nat → Option FieldType) (mx : Nat → Nat) (own : Nat → String) (TW : List Cond) (j : Nat) : Prop :=
  Cond.code (yn j) (bt j) (mx j) (rt j) ∈ TW ∧ Cond.initialized (yn j).cls ∈ TW ∧ plainName (yn j).cls = true ∧ ((yn j).cls ≠ "java/lang/invoke/MethodHandle" ∧ (yn j).cls ≠ "java/lang/invoke/VarHandle") ∧ own j = (yn j).cls
/-- what an entry of method k's code needs -/
def j_ok (yn : Nat → MethodName) (bt : Nat → ByteArray) (rt : Nat → Option FieldType) (mx rc : Nat → Nat) (own : Nat → String) (cl : List vw_C) (TW : List Cond) (zs : List (String × String × String × Value)) (ks : jK) (k pc : Nat) (e : jE) : Prop :=
  decode (bt k) pc = .ok (e.1, e.2.1) ∧ j_lk (own k) (yn k).name cl TW zs ks pc e ∧
  match e.1 with
  | .tableswitch _ _ _ _ => True
  | .lookupswitch _ _ => True
  | .ireturn => e.2.1 = 1 ∧ rt k = some e.2.2.2.2.2
  | .lreturn => e.2.1 = 1 ∧ rt k = some .long
  | .areturn => e.2.1 = 1 ∧ ∃ t, rt k = some (.array t)
  | .return_ => e.2.1 = 1 ∧ rt k = none
  | .invokevirtual i => e.2.1 = 3 ∧ j_cal yn bt rt mx own TW e.2.2.1 ∧ Cond.methodLink (own k) i (yn e.2.2.1) ∈ TW ∧ Cond.instanceMethod (yn e.2.2.1) ∈ TW ∧ Cond.selects (yn e.2.2.1).cls (yn e.2.2.1) (yn e.2.2.1) ∈ TW ∧ (∃ n, e.2.2.2.1 = n + 1 ∧ (parseMethodDescriptor (yn e.2.2.1).desc).map (fun d => d.parameters.length) = some n) ∧ ((rc e.2.2.1 = 99 ∧ (yn e.2.2.1).cls = "java/lang/String") ∨ (¬ rc e.2.2.1 = 99 ∧ ∃ r : vw_C, cl[rc e.2.2.1]? = some r ∧ r.1 = (yn e.2.2.1).cls))
  | .invokestatic i => e.2.1 = 3 ∧ j_cal yn bt rt mx own TW e.2.2.1 ∧ (Cond.methodLink (own k) i (yn e.2.2.1) ∈ TW ∨ ∃ host, Cond.methodLinkNest (own k) i (yn e.2.2.1) host ∈ ks.2) ∧ Cond.static (yn e.2.2.1) ∈ TW ∧ (parseMethodDescriptor (yn e.2.2.1).desc).map (fun d => d.parameters.length) = some e.2.2.2.1
  | .invokespecial i => e.2.1 = 3 ∧ ((e.2.2.1 = 1000 ∧ Cond.methodLink (own k) i Lib.objectInit ∈ TW ∧ Cond.instanceMethod Lib.objectInit ∈ TW ∧ Cond.code Lib.objectInit ⟨#[0xb1]⟩ 1 none ∈ TW) ∨
      (¬ e.2.2.1 = 1000 ∧ j_cal yn bt rt mx own TW e.2.2.1 ∧ Cond.methodLink (own k) i (yn e.2.2.1) ∈ TW ∧ Cond.instanceMethod (yn e.2.2.1) ∈ TW ∧ (yn e.2.2.1).name = "<init>" ∧ rt e.2.2.1 = none ∧ ∃ n, e.2.2.2.1 = n + 1 ∧ (parseMethodDescriptor (yn e.2.2.1).desc).map (fun d => d.parameters.length) = some n))
  | _ => e.2.1 = j_len e.1
def j_Pre (g : Nat → Value) (ad : Nat → Nat) (B : Nat) (D : va_G) (cA : Nat → ClassId) (cl : List vw_C) (zs : List (String × String × String × Value)) (ks : jK) (hp : List jc) (U : State) : Prop :=
  va_K D cl (j_tys cA) U ∧ j_St g B zs U U.heap ∧ j_Ks g ks U ∧ B ≤ U.heap.size ∧ j_H g ad B D cA cl U U.heap hp
def j_Qc (g : Nat → Value) (ad : Nat → Nat) (B : Nat) (D : va_G) (cA : Nat → ClassId) (cl : List vw_C) (v : Option Value) (hp : List jc) : Array Value → State → Outcome → State → Prop := fun _ st oc t =>
  oc = .returned (v.map (j_rv g)) ∧ j_H g ad B D cA cl t t.heap hp ∧ va_F (j_A B) st t
section JR
variable {g : Nat → Value} {ad : Nat → Nat} {B : Nat} {D : va_G} {cA : Nat → ClassId} {cl : List vw_C} {TW : List Cond} {zs : List (String × String × String × Value)} {ks : jK} {df : Nat → List Value}
variable {yn : Nat → MethodName} {bt : Nat → ByteArray} {rt : Nat → Option FieldType} {mx rc : Nat → Nat} {own : Nat → String} {F : Nat → Nat → Option jE}
theorem j_Nw_warm {x : Cond} {s U : State} (hW : s.WarmedH U.vm) (hx : j_isN x = true) (h : va_Nw x s) : va_Nw x U := by
  cases x with
  | arrayOver t =>
    cases t with
    | object C => exact va_AO.moved hW.alike h
    | _ => cases hx
  | _ => first | exact va_Nw.warmF hW h | exact va_Nw.warmM hW h | cases hx
theorem j_Nw_same {x : Cond} {s U : State} (hv : s.vm = U.vm) (hx : j_isN x = true) (h : va_Nw x s) : va_Nw x U := by
  cases x with
  | arrayOver t =>
    cases t with
    | object C => exact va_AO.moved (u := s) (U := U) (by rw [hv]; exact Vm.Alike.refl U.vm) h
    | _ => cases hx
  | _ => first | exact va_Nw.same rfl hv h | cases hx
theorem j_Ks.warm {s U : State} (hW : s.WarmedH U.vm) (h : j_Ks g ks s) : j_Ks g ks U := ⟨fun q hq => by
  obtain ⟨a, h1, h2⟩ := h.1 q hq
  exact ⟨a, h1, h2.warm hW⟩, fun x hx => ⟨(h.2 x hx).1, j_Nw_warm hW (h.2 x hx).1 (h.2 x hx).2⟩⟩
theorem j_Pre.blind {hp : List jc} {av : List Value} : FrameBlind (va_Pc av (j_Pre g ad B D cA cl zs ks hp)) := by
  intro a U fr mk q
  obtain ⟨q0, qK, qS, qs, qB, qH⟩ := q
  refine ⟨q0, va_K.moved (u := U) (U := U.calling fr mk a) (Vm.Alike.refl U.vm) qK, fun z hz => va_Z.moved (u := U) (U := U.calling fr mk a) (Vm.Alike.refl U.vm) (qS z hz), ⟨fun z hz => ?_, fun x hx => ⟨(qs.2 x hx).1, j_Nw_same (s := U) (U := U.calling fr mk a) rfl (qs.2 x hx).1 (qs.2 x hx).2⟩⟩, qB, j_H.moved (U := U) (V := U.calling fr mk a) (Vm.Alike.refl U.vm) qH⟩
  obtain ⟨x, h1, h2⟩ := qs.1 z hz
  exact ⟨x, h1, vk_R.same (u := U) (U := U.calling fr mk a) rfl h2⟩
theorem j_Pre.at {s U : State} {H : Heap} {locs : List Loc} {hp : List jc} (hK : va_K D cl (j_tys cA) s) (hSt : j_St g B zs s s.heap) (hKs : j_Ks g ks s) (hBs : B ≤ s.heap.size) (hH : j_H g ad B D cA cl s H hp) (hS : va_S (j_A B) s.heap H locs) (hU : U.heap = H) (hW : s.WarmedH U.vm) : j_Pre g ad B D cA cl zs ks hp U := by
  subst hU
  exact ⟨va_K.moved hW.alike hK, fun z hz => va_Z.moved hW.alike ((hSt z hz).kept hS.2.1), hKs.warm hW, Nat.le_trans hBs hS.1, hH.moved hW.alike⟩
theorem j_sl_len (hG : j_G g ad B) (as : List Value) : (lg_sl (as.map (j_rv g))).length = (lg_sl as).length := by
  induction as with
  | nil => rfl
  | cons v r ih =>
    unfold lg_sl at ih ⊢
    simp only [List.map_cons, List.flatMap_cons, List.length_append, ih, j_rv_cat hG]
    by_cases hv : v.category = 2
    · simp [hv]
    · simp [hv]
theorem j_args (hG : j_G g ad B) (as : List Value) : ∀ i, lv_args i (as.map (j_rv g)) = j_sl g (lv_args i as) := by
  induction as with
  | nil => intro i; rfl
  | cons v r ih =>
    intro i
    show (i, j_rv g v) :: lv_args (if (j_rv g v).category = 2 then i + 2 else i + 1) (r.map (j_rv g)) = (i, j_rv g v) :: j_sl g (lv_args (if v.category = 2 then i + 2 else i + 1) r)
    rw [ih, j_rv_cat hG]
theorem j_entry (hG : j_G g ad B) {as : List Value} {n : Nat} (h : (lg_sl as).length ≤ n) : lv_has ((lg_sl (as.map (j_rv g)) ++ List.replicate (n - (lg_sl (as.map (j_rv g))).length) Slot.unset).toArray) n (j_sl g (lv_args 0 as)) := by
  have h1 := lv_entry (as.map (j_rv g)) (n := n) (by rw [j_sl_len hG]; exact h)
  rw [j_args hG] at h1
  exact h1
/-- a call that has come back -/
theorem j_call {p : Program} {l : Launch} {e : Env} {R : Room} {s : State} {m : MethodId} {args : Array Value} {below : List Frame} {meth : Method} {c : Code} {H : Heap} {locs : List Loc} {cells slots mc ms : Nat} {Q : State → Prop} {pc : Nat} {ls : Array Slot} {st0 rest : List Value} {a : Array Value} {v : Option Value} {hp : List jc}
    (hr : va_Run p l e R s m args below meth c H locs cells slots mc ms (F0 m pc ls st0) rest (j_Qc g ad B D cA cl v hp a) (j_A B)) (hS : va_S (j_A B) s.heap H locs)
    (kk : ∀ (H1 : Heap) (locs1 : List Loc), j_H g ad B D cA cl s H1 hp → va_S (j_A B) s.heap H1 locs1 → W p l e R s m args below meth c H1 locs1 (cells + mc) (slots + ms) Q (F0 m (pc + 3) ls ((v.map (j_rv g)).toList ++ rest))) : W p l e R s m args below meth c H locs cells slots Q (F0 m pc ls st0) := by
  intro T hT X
  obtain ⟨v', st₀, t, T', L, h0, X', hL, e1, e2, ⟨hv, hH, hz, hk⟩, st⟩ := hr T hT X
  have hv' : v' = v.map (j_rv g) := by injection hv
  subst hv'
  rw [h0] at hz hk
  have hal : s.vm.Alike t.vm := by rw [← e2]; exact X'.warmed.alike
  obtain ⟨t2, a1, b1⟩ := kk T'.heap (locs ++ L) (by rw [e1]; exact hH.moved hal.symm)
    ⟨Nat.le_trans hS.1 (by rw [e1]; exact hz), fun q h1 h2 => by rw [e1, hk q (Nat.lt_of_lt_of_le h1 hS.1) h2]; exact hS.2.1 q h1 h2, fun q hq => by
      rcases List.mem_append.mp hq with h | h
      · exact hS.2.2 q h
      · exact hL q h⟩ T' rfl X'
  exact ⟨t2, st t2 a1, b1⟩
theorem j_toList (v : Option Value) (r : List Value) : (v.toList ++ r).map (j_rv g) = (v.map (j_rv g)).toList ++ r.map (j_rv g) := by
  cases v <;> rfl
theorem jrun_mono : ∀ (n k pc : Nat) (lv : jL) (st : List Value) (hp : List jc) (c sl fr lo : Nat) (r : jR), jrun F mx rc df n k pc lv st hp c sl fr lo = some r → c ≤ r.2.2.1 ∧ sl ≤ r.2.2.2 := by
  intro n
  induction n with
  | zero => intro k pc lv st hp c sl fr lo r h; cases h
  | succ n ih =>
    intro k pc lv st hp c sl fr lo r h
    rw [jrun_succ] at h
    unfold jbody at h
    have hcall : ∀ (b : Bool) (e : jE), (cond b (match jrun F mx rc df n e.2.2.1 0 (lv_args 0 (st.take e.2.2.2.1).reverse) [] hp 0 0 (fr - 1) (lo - (mx e.2.2.1 + 19)) with
      | some (v, hp', c1, s1) => jrun F mx rc df n k (pc + 3) lv (v.toList ++ st.drop e.2.2.2.1) hp' (c + c1) (sl + s1) fr lo
      | none => none) none) = some r → c ≤ r.2.2.1 ∧ sl ≤ r.2.2.2 := by
      intro b e h
      cases b with
      | false => cases h
      | true =>
        simp only [cond_true] at h
        split at h
        · rename_i v hp' c1 s1 _
          have := ih _ _ _ _ _ _ _ _ _ _ h
          exact ⟨Nat.le_trans (Nat.le_add_right _ _) this.1, Nat.le_trans (Nat.le_add_right _ _) this.2⟩
        · cases h
    dsimp only at h
    split at h
    · cases h
    · rename_i e he
      split at h
      · split at h
        · cases hb : j_fit e.2.2.2.2.2 (.int _) with
          | false => rw [hb] at h; cases h
          | true => rw [hb] at h; cases h; exact ⟨Nat.le_refl _, Nat.le_refl _⟩
        · cases h
      · split at h
        · cases h; exact ⟨Nat.le_refl _, Nat.le_refl _⟩
        · cases h
      · split at h
        · rename_i x
          cases hb : Nat.ble 9 x with
          | false => rw [hb] at h; cases h
          | true => rw [hb] at h; cases h; exact ⟨Nat.le_refl _, Nat.le_refl _⟩
        · cases h
      · split at h
        · cases h; exact ⟨Nat.le_refl _, Nat.le_refl _⟩
        · cases h
      · exact hcall _ e h
      · exact hcall _ e h
      · cases hb : Nat.beq e.2.2.1 1000 with
        | true =>
          rw [hb] at h
          simp only [cond_true] at h
          split at h
          · rename_i a r1
            cases hb2 : Nat.ble 9 a && Nat.ble 1 fr && Nat.ble ((r1.map fun v => v.category).sum + 12) lo with
            | false => rw [hb2] at h; cases h
            | true =>
              rw [hb2] at h
              exact ih _ _ _ _ _ _ _ _ _ _ h
          · cases h
        | false =>
          rw [hb] at h
          simp only [cond_false] at h
          have h2 : ∀ (b : Bool) (x : Option jR), cond b x none = some r → x = some r := fun b x hx => by cases b <;> first | exact hx | cases hx
          exact hcall _ e (h2 _ _ h)
      · split at h
        · have := ih _ _ _ _ _ _ _ _ _ _ h
          exact ⟨Nat.le_trans (Nat.le_add_right _ _) this.1, Nat.le_trans (Nat.le_add_right _ _) this.2⟩
        · cases h
end JR
end
section
section JT
variable {g : Nat → Value} {ad : Nat → Nat} {B : Nat} {D : va_G} {cA : Nat → ClassId} {cl : List vw_C} {TW : List Cond} {zs : List (String × String × String × Value)} {ks : jK} {df : Nat → List Value}
variable {yn : Nat → MethodName} {bt : Nat → ByteArray} {rt : Nat → Option FieldType} {mx rc : Nat → Nat} {own : Nat → String} {F : Nat → Nat → Option jE}
set_option maxHeartbeats 4000000 in
/-- a step that is no call and no end -/
theorem j_step_all {p : Program} {l : Launch} {e : Env} {R : Room} {s : State} {m : MethodId} {args : Array Value} {below : List Frame} {meth : Method} {c : Code} {H : Heap} {locs : List Loc} {cells slots : Nat} {Q : State → Prop} {k pc pc' dc ds : Nat} {lv lv' : jL} {st st' : List Value} {hp hp' : List jc} {ls : Array Slot} {en : jE}
    (hC : j_Cx g ad B D cA cl TW zs ks (own k) (yn k).name (bt k) (mx k) p s m args meth c) (hkd : j_kd cl TW df ∧ cl[99]? = none ∧ ∀ rr : vw_C, cl[4]? = some rr → rr.1 = "HundredWords$Row") (hok : j_ok yn bt rt mx rc own cl TW zs ks k pc en)
    (h : jstep df (mx k) pc en lv st hp = some (pc', lv', st', hp', dc, ds)) (hl : lv_has ls (mx k) (j_sl g lv)) (hH : j_H g ad B D cA cl s H hp) (hS : va_S (j_A B) s.heap H locs) (hc : cells + dc ≤ R.cells) (hs : slots + ds ≤ R.slots)
    (kk : ∀ (H' : Heap) (locs' : List Loc) (ls' : Array Slot), lv_has ls' (mx k) (j_sl g lv') → j_H g ad B D cA cl s H' hp' → va_S (j_A B) s.heap H' locs' → W p l e R s m args below meth c H' locs' (cells + dc) (slots + ds) Q (F0 m pc' ls' (st'.map (j_rv g)))) : W p l e R s m args below meth c H locs cells slots Q (F0 m pc ls (st.map (j_rv g))) := by
  obtain ⟨ins, len, l1, l2, val, ty⟩ := en
  obtain ⟨hd, hlk, hlen⟩ := hok
  cases ins with
  | iconst _ => exact j_s_iconst hC hkd hd hlen hlk h hl hH hS hc hs kk
  | bipush _ => exact j_s_bipush hC hkd hd hlen hlk h hl hH hS hc hs kk
  | sipush _ => exact j_s_sipush hC hkd hd hlen hlk h hl hH hS hc hs kk
  | lconst _ => exact j_s_lconst hC hkd hd hlen hlk h hl hH hS hc hs kk
  | iload_n _ => exact j_s_iload_n hC hkd hd hlen hlk h hl hH hS hc hs kk
  | iload _ => exact j_s_iload hC hkd hd hlen hlk h hl hH hS hc hs kk
  | lload_n _ => exact j_s_lload_n hC hkd hd hlen hlk h hl hH hS hc hs kk
  | lload _ => exact j_s_lload hC hkd hd hlen hlk h hl hH hS hc hs kk
  | aload_n _ => exact j_s_aload_n hC hkd hd hlen hlk h hl hH hS hc hs kk
  | aload _ => exact j_s_aload hC hkd hd hlen hlk h hl hH hS hc hs kk
  | istore_n _ => exact j_s_istore_n hC hkd hd hlen hlk h hl hH hS hc hs kk
  | istore _ => exact j_s_istore hC hkd hd hlen hlk h hl hH hS hc hs kk
  | astore_n _ => exact j_s_astore_n hC hkd hd hlen hlk h hl hH hS hc hs kk
  | astore _ => exact j_s_astore hC hkd hd hlen hlk h hl hH hS hc hs kk
  | lstore_n _ => exact j_s_lstore_n hC hkd hd hlen hlk h hl hH hS hc hs kk
  | lstore _ => exact j_s_lstore hC hkd hd hlen hlk h hl hH hS hc hs kk
  | iinc _ _ => exact j_s_iinc hC hkd hd hlen hlk h hl hH hS hc hs kk
  | iadd => exact j_s_iadd hC hkd hd hlen hlk h hl hH hS hc hs kk
  | isub => exact j_s_isub hC hkd hd hlen hlk h hl hH hS hc hs kk
  | imul => exact j_s_imul hC hkd hd hlen hlk h hl hH hS hc hs kk
  | iand => exact j_s_iand hC hkd hd hlen hlk h hl hH hS hc hs kk
  | ior => exact j_s_ior hC hkd hd hlen hlk h hl hH hS hc hs kk
  | ishl => exact j_s_ishl hC hkd hd hlen hlk h hl hH hS hc hs kk
  | ishr => exact j_s_ishr hC hkd hd hlen hlk h hl hH hS hc hs kk
  | ladd => exact j_s_ladd hC hkd hd hlen hlk h hl hH hS hc hs kk
  | lsub => exact j_s_lsub hC hkd hd hlen hlk h hl hH hS hc hs kk
  | lmul => exact j_s_lmul hC hkd hd hlen hlk h hl hH hS hc hs kk
  | land => exact j_s_land hC hkd hd hlen hlk h hl hH hS hc hs kk
  | lor => exact j_s_lor hC hkd hd hlen hlk h hl hH hS hc hs kk
  | lxor => exact j_s_lxor hC hkd hd hlen hlk h hl hH hS hc hs kk
  | iushr => exact j_s_iushr hC hkd hd hlen hlk h hl hH hS hc hs kk
  | lshl => exact j_s_lshl hC hkd hd hlen hlk h hl hH hS hc hs kk
  | lshr => exact j_s_lshr hC hkd hd hlen hlk h hl hH hS hc hs kk
  | lushr => exact j_s_lushr hC hkd hd hlen hlk h hl hH hS hc hs kk
  | idiv => exact j_s_idiv hC hkd hd hlen hlk h hl hH hS hc hs kk
  | irem => exact j_s_irem hC hkd hd hlen hlk h hl hH hS hc hs kk
  | ldiv => exact j_s_ldiv hC hkd hd hlen hlk h hl hH hS hc hs kk
  | lrem => exact j_s_lrem hC hkd hd hlen hlk h hl hH hS hc hs kk
  | lcmp => exact j_s_lcmp hC hkd hd hlen hlk h hl hH hS hc hs kk
  | ineg => exact j_s_ineg hC hkd hd hlen hlk h hl hH hS hc hs kk
  | lneg => exact j_s_lneg hC hkd hd hlen hlk h hl hH hS hc hs kk
  | i2l => exact j_s_i2l hC hkd hd hlen hlk h hl hH hS hc hs kk
  | l2i => exact j_s_l2i hC hkd hd hlen hlk h hl hH hS hc hs kk
  | i2c => exact j_s_i2c hC hkd hd hlen hlk h hl hH hS hc hs kk
  | dup => exact j_s_dup hC hkd hd hlen hlk h hl hH hS hc hs kk
  | pop => exact j_s_pop hC hkd hd hlen hlk h hl hH hS hc hs kk
  | dup2 => exact j_s_dup2 hC hkd hd hlen hlk h hl hH hS hc hs kk
  | ifCond _ _ => exact j_s_ifCond hC hkd hd hlen hlk h hl hH hS hc hs kk
  | if_icmp _ _ => exact j_s_if_icmp hC hkd hd hlen hlk h hl hH hS hc hs kk
  | goto _ => exact j_s_goto hC hkd hd hlen hlk h hl hH hS hc hs kk
  | tableswitch _ _ _ _ => exact j_s_tableswitch hC hkd hd hlk h hl hH hS hc hs kk
  | lookupswitch _ _ => exact j_s_lookupswitch hC hkd hd hlk h hl hH hS hc hs kk
  | getfield _ => exact j_s_getfield hC hkd hd hlen hlk h hl hH hS hc hs kk
  | putfield _ => exact j_s_putfield hC hkd hd hlen hlk h hl hH hS hc hs kk
  | getstatic _ => exact j_s_getstatic hC hkd hd hlen hlk h hl hH hS hc hs kk
  | ldc2_w _ => exact j_s_ldc2_w hC hkd hd hlen hlk h hl hH hS hc hs kk
  | ldc _ => exact j_s_ldc hC hkd hd hlen hlk h hl hH hS hc hs kk
  | arraylength => exact j_s_arraylength hC hkd hd hlen hlk h hl hH hS hc hs kk
  | iaload => exact j_s_iaload hC hkd hd hlen hlk h hl hH hS hc hs kk
  | laload => exact j_s_laload hC hkd hd hlen hlk h hl hH hS hc hs kk
  | caload => exact j_s_caload hC hkd hd hlen hlk h hl hH hS hc hs kk
  | aaload => exact j_s_aaload hC hkd hd hlen hlk h hl hH hS hc hs kk
  | baload => exact j_s_baload hC hkd hd hlen hlk h hl hH hS hc hs kk
  | iastore => exact j_s_iastore hC hkd hd hlen hlk h hl hH hS hc hs kk
  | lastore => exact j_s_lastore hC hkd hd hlen hlk h hl hH hS hc hs kk
  | castore => exact j_s_castore hC hkd hd hlen hlk h hl hH hS hc hs kk
  | bastore => exact j_s_bastore hC hkd hd hlen hlk h hl hH hS hc hs kk
  | aastore => exact j_s_aastore hC hkd hd hlen hlk h hl hH hS hc hs kk
  | new _ => exact j_s_new hC hkd hd hlen hlk h hl hH hS hc hs kk
  | newarray _ => exact j_s_newarray hC hkd hd hlen hlk h hl hH hS hc hs kk
  | anewarray _ => exact j_s_anewarray hC hkd hd hlen hlk h hl hH hS hc hs kk
  | _ =>
    have h : (none : Option jX) = some (pc', lv', st', hp', dc, ds) := h
    cases h
set_option maxHeartbeats 4000000 in
/-- a method, by its run, as a contract: 'ih': runs that are shorter -/
theorem j_met {l : Launch} (hG : j_G g ad B) (n : Nat)
    (ih : ∀ (p : Program) (e : Env) (R : Room) (s : State) (m : MethodId) (args : Array Value) (below : List Frame) (meth : Method) (c : Code) (H : Heap) (locs : List Loc) (k pc : Nat) (lv : jL) (st : List Value) (hp : List jc) (cells slots fr lo : Nat) (v : Option Value) (hp' : List jc) (c' s' : Nat) (ls : Array Slot),
      jrun F mx rc df n k pc lv st hp cells slots fr lo = some (v, hp', c', s') → j_Cx g ad B D cA cl TW zs ks (own k) (yn k).name (bt k) (mx k) p s m args meth c → meth.sig.returnType = rt k → lv_has ls (mx k) (j_sl g lv) → j_H g ad B D cA cl s H hp → va_S (j_A B) s.heap H locs → c' ≤ R.cells → s' ≤ R.slots → fr ≤ R.frames → lo ≤ R.locals →
      W p l e R s m args below meth c H locs cells slots (MQ below (j_Qc g ad B D cA cl v hp') args s c' s' (j_A B)) (F0 m pc ls (st.map (j_rv g))))
    {j fr lo c1 s1 : Nat} {as : List Value} {hp hp1 : List jc} {v1 : Option Value} (hrun : jrun F mx rc df n j 0 (lv_args 0 as) [] hp 0 0 fr lo = some (v1, hp1, c1, s1)) (hlen : (lg_sl as).length ≤ mx j) (hcal : j_cal yn bt rt mx own TW j) :
    Met l (yn j) (Cond.code (yn j) (bt j) (mx j) (rt j) :: TW) { frames := fr, cells := c1, slots := s1, locals := lo } (va_Pc (as.map (j_rv g)) (j_Pre g ad B D cA cl zs ks hp)) (j_Qc g ad B D cA cl v1 hp1) c1 s1 (j_A B) := by
  refine Met.ofW (cc := bt j) (maxL := mx j) (ret := rt j) hcal.2.2.1 rfl ?_
  intro p e s m args below meth c s₁ B0 hml hv
  obtain ⟨rfl, hK, hSt, hKs, hBs, hH⟩ := hv
  have hts := atoms_spec (ws := Cond.code (yn j) (bt j) (mx j) (rt j) :: TW) B0.pre
  have hown : s.vm.findClass (own j) = some m.cls := by rw [hcal.2.2.2.2]; exact findClass_of_methodNamed B0.named
  rw [lg_entry_eq]
  exact ih p e _ s m _ below meth c s.heap [] j 0 (lv_args 0 as) [] hp 0 0 fr lo v1 hp1 c1 s1 _ hrun ⟨hG, B0.exec, B0.bytes, hml, hown, fun x hx => hts x (List.mem_cons_of_mem _ hx), B0.notSynchronized, (fun z => (name_of_methodNamed B0.named B0.method).1.trans z), hK, hSt, hKs, hBs⟩ B0.returns (j_entry hG hlen) hH va_S.rf (Nat.le_refl _) (Nat.le_refl _) (Nat.le_refl _) (Nat.le_refl _)
theorem j_split {n : Nat} {st : List Value} (h : n ≤ st.length) : st.map (j_rv g) = ((st.take n).reverse.map (j_rv g)).reverse ++ (st.drop n).map (j_rv g) := by
  rw [← List.map_reverse, List.reverse_reverse, ← List.map_append, List.take_append_drop]
theorem j_param (d : Nat) {y : MethodName} (h : (parseMethodDescriptor y.desc).map (fun d => d.parameters.length) = some d) : ∀ sig, parseMethodDescriptor y.desc = some sig → d = sig.parameters.length := by
  intro sig hs
  rw [hs] at h
  exact (Option.some.inj h).symm
theorem j_take {n : Nat} {st : List Value} (h : n ≤ st.length) : (st.take n).reverse.length = n := by
  rw [List.length_reverse, List.length_take]
  omega
theorem j_head {n : Nat} {st : List Value} (h : n + 1 ≤ st.length) {a : Nat} {r : List Value} (hd : st.drop n = .ref a :: r) : (st.take (n + 1)).reverse = .ref a :: (st.take n).reverse := by
  have h1 : st[n]? = some (.ref a) := by
    have := List.getElem?_drop (xs := st) (i := n) (j := 0)
    rw [hd] at this
    simpa using this.symm
  rw [List.take_succ, h1]
  simp
set_option maxHeartbeats 8000000 in
theorem j_run_ok {l : Launch} (hG : j_G g ad B) (hF : ∀ k pc en, F k pc = some en → j_ok yn bt rt mx rc own cl TW zs ks k pc en) (hkd : j_kd cl TW df ∧ cl[99]? = none ∧ ∀ rr : vw_C, cl[4]? = some rr → rr.1 = "HundredWords$Row") (hgood : ∀ x ∈ TW, (x.onTables && x.keeps) = true ∨ ∃ ty, x = .arrayClass ty) :
    ∀ (n : Nat) (p : Program) (e : Env) (R : Room) (s : State) (m : MethodId) (args : Array Value) (below : List Frame) (meth : Method) (c : Code) (H : Heap) (locs : List Loc) (k pc : Nat) (lv : jL) (st : List Value) (hp : List jc) (cells slots fr lo : Nat) (v : Option Value) (hp' : List jc) (c' s' : Nat) (ls : Array Slot),
      jrun F mx rc df n k pc lv st hp cells slots fr lo = some (v, hp', c', s') → j_Cx g ad B D cA cl TW zs ks (own k) (yn k).name (bt k) (mx k) p s m args meth c → meth.sig.returnType = rt k → lv_has ls (mx k) (j_sl g lv) → j_H g ad B D cA cl s H hp → va_S (j_A B) s.heap H locs → c' ≤ R.cells → s' ≤ R.slots → fr ≤ R.frames → lo ≤ R.locals →
      W p l e R s m args below meth c H locs cells slots (MQ below (j_Qc g ad B D cA cl v hp') args s c' s' (j_A B)) (F0 m pc ls (st.map (j_rv g))) := by
  intro n
  induction n with
  | zero => intro p e R s m args below meth c H locs k pc lv st hp cells slots fr lo v hp' c' s' ls h; cases h
  | succ n ih =>
    intro p e R s m args below meth c H locs k pc lv st hp cells slots fr lo v hp' c' s' ls h hC hret hl hH hS hRc hRs hRf hRl
    have h0 := h
    rw [jrun_succ] at h
    unfold jbody at h
    dsimp only at h
    obtain ⟨-, hx, hb, hml, hown, hts, hlocks, hname, hK, hSt, hKs, hBs⟩ := id hC
    cases hen : F k pc with
    | none => rw [hen] at h; cases h
    | some en =>
      rw [hen] at h
      have hok := hF k pc en hen
      obtain ⟨ins, len, l1, l2, val, ty⟩ := en
      have word : ∀ x ∈ Cond.code (yn l1) (bt l1) (mx l1) (rt l1) :: TW, Cond.code (yn l1) (bt l1) (mx l1) (rt l1) ∈ TW → x ∈ TW := fun x hx hc => by
        rcases List.mem_cons.mp hx with e1 | e1
        · rw [e1]; exact hc
        · exact e1
      -- a call, by its three kinds
      have callB : ∀ {i n1 : Nat} {v1 : Option Value} {hp1 : List jc} {c1 s1 : Nat}, j_cal yn bt rt mx own TW l1 → Cond.methodLink (own k) i (yn l1) ∈ TW → (parseMethodDescriptor (yn l1).desc).map (fun d => d.parameters.length) = some n1 → 1 ≤ fr → mx l1 + 19 ≤ lo →
          CallB R s args (own k) i (yn l1) (bt l1) (mx l1) (rt l1) (Cond.code (yn l1) (bt l1) (mx l1) (rt l1) :: TW) { frames := fr - 1, cells := c1, slots := s1, locals := lo - (mx l1 + 19) } c1 s1 n1 := by
        intro i n1 v1 hp1 c1 s1 hcal hlink hpar hfr hlo
        exact ⟨rfl, rfl, by show fr - 1 + 1 ≤ R.frames; omega, by show 8 + (mx l1 + 11) + (lo - (mx l1 + 19)) ≤ R.locals; omega, fun x hx a' U hW => word_at hW (hgood x (word x hx hcal.1)) (hts x (word x hx hcal.1)), List.mem_cons_self, hts _ hcal.1, hts _ hcal.2.1, hcal.2.2.2.1, j_param n1 hpar, hts _ hlink⟩
      have callN : ∀ {i n1 : Nat} {host : String} {v1 : Option Value} {hp1 : List jc} {c1 s1 : Nat}, j_cal yn bt rt mx own TW l1 → (Cond.methodLinkNest (own k) i (yn l1) host).before args s = true → (parseMethodDescriptor (yn l1).desc).map (fun d => d.parameters.length) = some n1 → 1 ≤ fr → mx l1 + 19 ≤ lo →
          va_CN R s args (own k) i (yn l1) host (bt l1) (mx l1) (rt l1) (Cond.code (yn l1) (bt l1) (mx l1) (rt l1) :: TW) { frames := fr - 1, cells := c1, slots := s1, locals := lo - (mx l1 + 19) } c1 s1 n1 := by
        intro i n1 host v1 hp1 c1 s1 hcal hlink hpar hfr hlo
        exact ⟨⟨rfl, rfl, by show fr - 1 + 1 ≤ R.frames; omega, by show 8 + (mx l1 + 11) + (lo - (mx l1 + 19)) ≤ R.locals; omega, fun x hx a' U hW => word_at hW (hgood x (word x hx hcal.1)) (hts x (word x hx hcal.1)), List.mem_cons_self⟩, hts _ hcal.1, hts _ hcal.2.1, hcal.2.2.2.1, j_param n1 hpar, hlink⟩
      have step : ∀ (hj : (match jstep df (mx k) pc (ins, len, l1, l2, val, ty) lv st hp with
          | some (pc', lv', st', hp', dc, ds) => jrun F mx rc df n k pc' lv' st' hp' (cells + dc) (slots + ds) fr lo
          | none => none) = some (v, hp', c', s')), W p l e R s m args below meth c H locs cells slots (MQ below (j_Qc g ad B D cA cl v hp') args s c' s' (j_A B)) (F0 m pc ls (st.map (j_rv g))) := by
        intro hj
        split at hj
        · rename_i pc1 lv1 st1 hp1 dc ds hst
          have hm := jrun_mono _ _ _ _ _ _ _ _ _ _ _ hj
          exact j_step_all hC hkd hok hst hl hH hS (Nat.le_trans hm.1 hRc) (Nat.le_trans hm.2 hRs) (fun H1 locs1 ls1 hl1 hH1 hS1 => ih p e R s m args below meth c H1 locs1 k pc1 lv1 st1 hp1 _ _ fr lo v hp' c' s' ls1 hj hC hret hl1 hH1 hS1 hRc hRs hRf hRl)
        · cases hj
      cases ins with
      | ireturn =>
        obtain ⟨hd, -, rfl, hrt⟩ := hok
        dsimp only at h
        split at h
        · rename_i x
          cases hb1 : j_fit ty (.int x) with
          | false => rw [hb1] at h; cases h
          | true =>
            rw [hb1] at h
            cases h
            have hn := (j_rv_fit g ad B hG hb1).1
            exact W.zret hx hb (hret.trans hrt) hn (fun t ht hW => ⟨rfl, by rw [ht]; exact hH.moved hW.alike, hS.F ht⟩) hS.2.2 hd
        · cases h
      | lreturn =>
        obtain ⟨hd, -, rfl, hrt⟩ := hok
        dsimp only at h
        split at h
        · rename_i x
          cases h
          exact W.lret hx hb (hret.trans hrt) (fun t ht hW => ⟨rfl, by rw [ht]; exact hH.moved hW.alike, hS.F ht⟩) hS.2.2 hd
        · cases h
      | areturn =>
        obtain ⟨hd, -, rfl, tr, hrt⟩ := hok
        dsimp only at h
        split at h
        · rename_i x
          cases hb1 : Nat.ble 9 x with
          | false => rw [hb1] at h; cases h
          | true =>
            rw [hb1] at h
            cases h
            exact W.aret (v := g x) hx hb (hret.trans hrt) (Or.inr ⟨_, rfl⟩) (Or.inr ⟨_, hG.ref (Nat.le_of_ble_eq_true hb1)⟩) (fun t ht hW => ⟨rfl, by rw [ht]; exact hH.moved hW.alike, hS.F ht⟩) hS.2.2 hd
        · cases h
      | return_ =>
        obtain ⟨hd, -, rfl, hrt⟩ := hok
        dsimp only at h
        split at h
        · cases h
          exact W.vret hx hb (hret.trans hrt) (fun t ht hW => ⟨rfl, by rw [ht]; exact hH.moved hW.alike, hS.F ht⟩) hS.2.2 hd
        · cases h
      | invokevirtual i =>
        obtain ⟨hd, -, rfl, hcal, hlink, hinst, hsel, ⟨n1, hn1, hpar⟩, hrc⟩ := hok
        change l2 = n1 + 1 at hn1
        subst hn1
        dsimp only at h
        generalize hbe : (Nat.ble (n1 + 1) st.length && Nat.ble ((st.drop (n1 + 1)).map fun v => v.category).sum 8 && Nat.ble 1 fr && Nat.ble (mx l1 + 19) lo && Nat.ble (lg_sl (st.take (n1 + 1)).reverse).length (mx l1) &&
          (if true = true then (match (st.take (n1 + 1)).reverse with | .ref a :: _ => (match j_nth hp a with | some (false, ci, _) => Nat.beq ci (rc l1) && (Nat.ble 9 a || Nat.beq ci 99) | _ => false) | _ => false) else true)) = bb at h
        cases bb with
        | false => cases h
        | true =>
          simp only [Bool.and_eq_true, if_true] at hbe
          obtain ⟨⟨⟨⟨⟨b1, b2⟩, b3⟩, b4⟩, b5⟩, b6⟩ := hbe
          have b1 := Nat.le_of_ble_eq_true b1
          have b2 := Nat.le_of_ble_eq_true b2
          have b3 := Nat.le_of_ble_eq_true b3
          have b4 := Nat.le_of_ble_eq_true b4
          have b5 := Nat.le_of_ble_eq_true b5
          simp only [cond_true] at h
          split at h
          · rename_i v1 hp1 c1 s1 hrun
            have hm := jrun_mono _ _ _ _ _ _ _ _ _ _ _ h
            have hsp := j_split (g := g) b1
            have hlen := j_take b1
            generalize has : (st.take (n1 + 1)).reverse = as at hrun b5 b6 hsp hlen
            split at b6
            · rename_i a r
              split at b6
              · rename_i ci fs ha
                rw [j_nth_eq] at ha
                rw [Bool.and_eq_true, Bool.or_eq_true] at b6
                have e1 : ci = rc l1 := Nat.eq_of_beq_eq_true b6.1
                have h8 : a ≠ 8 := fun e8 => by
                  rw [e8, hH.2.2.1] at ha
                  have e9 : ci = 98 := by
                    have := Option.some.inj ha
                    exact (congrArg (fun z : jc => z.2.1) this).symm
                  have b62 := b6.2
                  rw [e8, e9] at b62
                  rcases b62 with z | z <;> exact absurd z (by decide)
                have hin := hH.2.2.2 a _ ha
                have hrecv : ∃ cellB : Cell, H[ad a]? = some cellB ∧ cellB.vm.isStatics = false ∧ s.vm.findClass (yn l1).cls = some cellB.cls := by
                  unfold j_in at hin
                  rcases hrc with ⟨z1, z2⟩ | ⟨z1, rr, z2, z3⟩
                  · by_cases hk : a < 9
                    · rw [if_pos hk] at hin
                      obtain ⟨-, q4, -⟩ := hin.2 rfl (e1.trans z1)
                      rw [z2]
                      exact q4
                    · rw [if_neg hk] at hin
                      obtain ⟨rr, g1, -, -⟩ := hin.2 rfl
                      have z : cl[99]? = some rr := by rw [← z1, ← e1]; exact g1
                      rw [hkd.2.1] at z
                      cases z
                  · have hk : ¬ a < 9 := fun z => by
                      rcases b6.2 with y | y
                      · exact absurd (Nat.le_of_ble_eq_true y) (Nat.not_le.mpr z)
                      · exact z1 (e1.symm.trans (Nat.eq_of_beq_eq_true y))
                    rw [if_neg hk] at hin
                    obtain ⟨r2, g1, g2, cell, g3, g4, g5, g6⟩ := hin.2 rfl
                    have hr : r2 = rr := Option.some.inj (g1.symm.trans (by rw [show ci = rc l1 from e1]; exact z2))
                    subst hr
                    obtain ⟨-, hfc, -⟩ := hK.1 ci _ g1
                    exact ⟨cell, g3, by rw [g5]; rfl, by rw [← z3, g4]; exact hfc⟩
                refine j_call (va_runV (As := r.map (j_rv g)) (rest := (st.drop (n1 + 1)).map (j_rv g)) (b := ad a) (C := (yn l1).cls) ⟨hx, hb, hml, hown, hts⟩ (j_met hG n ih hrun b5 hcal) ⟨callB (v1 := v1) (hp1 := hp1) hcal hlink hpar b3 b4, hts _ hinst, hts _ hsel⟩ ⟨j_Pre.blind, hrecv, fun U hU hW => ⟨?_, j_Pre.at hK hSt hKs hBs hH hS hU hW⟩⟩ rfl ?_ hl.1 ?_ (lv_room (by rw [j_cats hG]; exact b2)) hd ⟨Nat.le_trans hm.1 hRc, Nat.le_trans hm.2 hRs⟩) hS (fun H1 locs1 hH1 hS1 => ?_)
                · show (Value.ref (ad a) :: r.map (j_rv g)).toArray = (j_rv g (.ref a) :: r.map (j_rv g)).toArray
                  rw [show j_rv g (.ref a) = .ref (ad a) from hG.1 a h8]
                · simpa using hlen
                · show st.map (j_rv g) = _
                  rw [hsp]
                  simp [show j_rv g (.ref a) = .ref (ad a) from hG.1 a h8]
                · rw [← j_toList]
                  exact ih p e R s m args below meth c H1 locs1 k (pc + 3) lv _ hp1 _ _ fr lo v hp' c' s' ls h hC hret hl hH1 hS1 hRc hRs hRf hRl
              · cases b6
            · cases b6
          · cases h
      | invokestatic i =>
        obtain ⟨hd, -, rfl, hcal, hlink, hstat, hpar⟩ := hok
        change (parseMethodDescriptor (yn l1).desc).map (fun d => d.parameters.length) = some l2 at hpar
        dsimp only at h
        generalize hbe : (Nat.ble l2 st.length && Nat.ble ((st.drop l2).map fun v => v.category).sum 8 && Nat.ble 1 fr && Nat.ble (mx l1 + 19) lo && Nat.ble (lg_sl (st.take l2).reverse).length (mx l1) &&
          (if false = true then (match (st.take l2).reverse with | .ref a :: _ => (match j_nth hp a with | some (false, ci, _) => Nat.beq ci (rc l1) && (Nat.ble 9 a || Nat.beq ci 99) | _ => false) | _ => false) else true)) = bb at h
        cases bb with
        | false => cases h
        | true =>
          simp only [Bool.and_eq_true] at hbe
          obtain ⟨⟨⟨⟨⟨b1, b2⟩, b3⟩, b4⟩, b5⟩, -⟩ := hbe
          have b1 := Nat.le_of_ble_eq_true b1
          have b2 := Nat.le_of_ble_eq_true b2
          have b3 := Nat.le_of_ble_eq_true b3
          have b4 := Nat.le_of_ble_eq_true b4
          have b5 := Nat.le_of_ble_eq_true b5
          simp only [cond_true] at h
          split at h
          · rename_i v1 hp1 c1 s1 hrun
            have hm := jrun_mono _ _ _ _ _ _ _ _ _ _ _ h
            have hsp := j_split (g := g) b1
            have hlen := j_take b1
            generalize has : (st.take l2).reverse = as at hrun b5 hsp hlen
            have hgo : ∀ (H1 : Heap) (locs1 : List Loc), j_H g ad B D cA cl s H1 hp1 → va_S (j_A B) s.heap H1 locs1 → W p l e R s m args below meth c H1 locs1 (cells + c1) (slots + s1) (MQ below (j_Qc g ad B D cA cl v hp') args s c' s' (j_A B)) (F0 m (pc + 3) ls ((v1.map (j_rv g)).toList ++ (st.drop l2).map (j_rv g))) := by
              intro H1 locs1 hH1 hS1
              rw [← j_toList]
              exact ih p e R s m args below meth c H1 locs1 k (pc + 3) lv _ hp1 _ _ fr lo v hp' c' s' ls h hC hret hl hH1 hS1 hRc hRs hRf hRl
            have hlen2 : (as.map (j_rv g)).length = l2 := by simpa using hlen
            have hroom : 2 * (F0 m pc ls (st.map (j_rv g))).monitorRoom + (((st.drop l2).map (j_rv g)).map fun v => v.category).sum ≤ 8 := lv_room (by rw [j_cats hG]; exact b2)
            have hpre : PreS s H (va_Pc (as.map (j_rv g)) (j_Pre g ad B D cA cl zs ks hp)) (as.map (j_rv g)) := ⟨j_Pre.blind, fun U hU hW => ⟨rfl, j_Pre.at hK hSt hKs hBs hH hS hU hW⟩⟩
            rcases hlink with hlink | ⟨host, hlink⟩
            · exact j_call (va_runS (As := as.map (j_rv g)) (rest := (st.drop l2).map (j_rv g)) ⟨hx, hb, hml, hown, hts⟩ (j_met hG n ih hrun b5 hcal) ⟨callB (v1 := v1) (hp1 := hp1) hcal hlink hpar b3 b4, hts _ hstat⟩ hpre rfl hlen2 hl.1 hsp hroom hd ⟨Nat.le_trans hm.1 hRc, Nat.le_trans hm.2 hRs⟩) hS hgo
            · exact j_call (va_runSN (As := as.map (j_rv g)) (rest := (st.drop l2).map (j_rv g)) (host := host) ⟨hx, hb, hml, hown, hts⟩ (j_met hG n ih hrun b5 hcal) ⟨callN (v1 := v1) (hp1 := hp1) hcal ((hKs.2 _ hlink).2.use rfl) hpar b3 b4, hts _ hstat, trivial⟩ hpre rfl hlen2 hl.1 hsp hroom hd ⟨Nat.le_trans hm.1 hRc, Nat.le_trans hm.2 hRs⟩) hS hgo
          · cases h
      | invokespecial i =>
        obtain ⟨hd, -, rfl, hok⟩ := hok
        rcases hok with ⟨z1, hlink, hinst, hcode⟩ | ⟨z1, hcal, hlink, hinst, hnm, hrt, n1, hn1, hpar⟩
        · change l1 = 1000 at z1
          subst z1
          dsimp only at h
          rw [show Nat.beq 1000 1000 = true from rfl] at h
          simp only [cond_true] at h
          split at h
          · rename_i a r
            cases hb1 : Nat.ble 9 a && Nat.ble 1 fr && Nat.ble ((r.map fun v => v.category).sum + 12) lo with
            | false => rw [hb1] at h; cases h
            | true =>
              rw [hb1] at h
              rw [Bool.and_eq_true, Bool.and_eq_true] at hb1
              have b1 := Nat.le_of_ble_eq_true hb1.1.1
              have b2 := Nat.le_of_ble_eq_true hb1.1.2
              have b3 := Nat.le_of_ble_eq_true hb1.2
              show W p l e R s m args below meth c H locs _ _ _ (F0 m pc ls (g a :: r.map (j_rv g)))
              rw [hG.ref b1]
              exact W.objInit hx hb hown (hts _ hlink) (hts _ hinst) (hts _ hcode) rfl (hl.1.trans hml.symm) rfl hd (Nat.le_trans b2 hRf) (by rw [j_cats hG]; show 2 * 0 + _ + 12 ≤ _; omega) (ih p e R s m args below meth c H locs k (pc + 3) lv r hp _ _ fr lo v hp' c' s' ls h hC hret hl hH hS hRc hRs hRf hRl)
          · cases h
        · change ¬ l1 = 1000 at z1
          change l2 = n1 + 1 at hn1
          subst hn1
          have hb0 : Nat.beq l1 1000 = false := by
            cases hq : Nat.beq l1 1000 with
            | false => rfl
            | true => exact absurd (Nat.eq_of_beq_eq_true hq) z1
          dsimp only at h
          rw [hb0] at h
          simp only [cond_false] at h
          generalize hbd : j_hd9 (st.drop (n1 + 1 - 1)) = bd at h
          cases bd with
          | false => cases h
          | true =>
            simp only [cond_true] at h
            generalize hbe : (Nat.ble (n1 + 1) st.length && Nat.ble ((st.drop (n1 + 1)).map fun v => v.category).sum 8 && Nat.ble 1 fr && Nat.ble (mx l1 + 19) lo && Nat.ble (lg_sl (st.take (n1 + 1)).reverse).length (mx l1) &&
              (if false = true then (match (st.take (n1 + 1)).reverse with | .ref a :: _ => (match j_nth hp a with | some (false, ci, _) => Nat.beq ci (rc l1) && (Nat.ble 9 a || Nat.beq ci 99) | _ => false) | _ => false) else true)) = bb at h
            cases bb with
            | false => cases h
            | true =>
              simp only [Bool.and_eq_true] at hbe
              obtain ⟨⟨⟨⟨⟨b1, b2⟩, b3⟩, b4⟩, b5⟩, -⟩ := hbe
              have b1 := Nat.le_of_ble_eq_true b1
              have b2 := Nat.le_of_ble_eq_true b2
              have b3 := Nat.le_of_ble_eq_true b3
              have b4 := Nat.le_of_ble_eq_true b4
              have b5 := Nat.le_of_ble_eq_true b5
              simp only [cond_true] at h
              split at h
              · rename_i v1 hp1 c1 s1 hrun
                have hm := jrun_mono _ _ _ _ _ _ _ _ _ _ _ h
                have hsp := j_split (g := g) b1
                have hlen := j_take b1
                unfold j_hd9 at hbd
                split at hbd
                · rename_i a r hdr
                  have h9 := Nat.le_of_ble_eq_true hbd
                  have has := j_head b1 hdr
                  rw [has] at hrun b5 hsp hlen
                  have hcb := callB (i := i) (v1 := v1) (hp1 := hp1) (c1 := c1) (s1 := s1) hcal hlink hpar b3 b4
                  have hmet := j_met (l := l) hG n ih hrun b5 hcal
                  rw [hrt] at hcb hmet
                  refine j_call (va_runI (As := (st.take n1).reverse.map (j_rv g)) (rest := (st.drop (n1 + 1)).map (j_rv g)) (b := ad a) ⟨hx, hb, hml, hown, hts⟩ hmet ⟨hcb, hnm, hts _ hinst⟩ ⟨j_Pre.blind, fun U hU hW => ⟨?_, j_Pre.at hK hSt hKs hBs hH hS hU hW⟩⟩ rfl ?_ hl.1 ?_ (lv_room (by rw [j_cats hG]; exact b2)) hd ⟨Nat.le_trans hm.1 hRc, Nat.le_trans hm.2 hRs⟩) hS (fun H1 locs1 hH1 hS1 => ?_)
                  · show (Value.ref (ad a) :: (st.take n1).reverse.map (j_rv g)).toArray = (j_rv g (.ref a) :: (st.take n1).reverse.map (j_rv g)).toArray
                    rw [show j_rv g (.ref a) = .ref (ad a) from hG.ref h9]
                  · simpa using hlen
                  · show st.map (j_rv g) = _
                    rw [hsp]
                    simp [show j_rv g (.ref a) = .ref (ad a) from hG.ref h9]
                  · rw [← j_toList]
                    exact ih p e R s m args below meth c H1 locs1 k (pc + 3) lv _ hp1 _ _ fr lo v hp' c' s' ls h hC hret hl hH1 hS1 hRc hRs hRf hRl
                · cases hbd
              · cases h
      | _ => exact step h
end JT
end
section
-- ===== PART A: goes FIRST, ahead of the names: the tables' words, and 'selects' of the private methods out of them =====
/-- a private method of a class that the tables say can be made, by its rows of tables_1 -/
def lw_okq (q : MethodName × Nat) : Prop := (q.1.cls ≠ "java/lang/invoke/MethodHandle" ∧ q.1.cls ≠ "java/lang/invoke/VarHandle") ∧ Cond.instantiable q.1.cls q.2 ∈ tables_1 ∧ Cond.privateMethod q.1 ∈ tables_1 ∧ Cond.instanceMethod q.1 ∈ tables_1
theorem lw_p0 : lw_okq (⟨"HundredWords", "refuse", "(I)I"⟩, 16) := ⟨⟨by decide +kernel, by decide +kernel⟩, List.mem_of_getElem? (i := 23) (by decide +kernel), List.mem_of_getElem? (i := 505) (by decide +kernel), List.mem_of_getElem? (i := 506) (by decide +kernel)⟩
theorem lw_p1 : lw_okq (⟨"HundredWords$TongueReader", "takesKind", "(LHundredWords$Tongue;)I"⟩, 2) := ⟨⟨by decide +kernel, by decide +kernel⟩, List.mem_of_getElem? (i := 81) (by decide +kernel), List.mem_of_getElem? (i := 547) (by decide +kernel), List.mem_of_getElem? (i := 548) (by decide +kernel)⟩
theorem lw_p2 : lw_okq (⟨"HundredWords$TongueReader", "takesRest", "(LHundredWords$Tongue;I)Z"⟩, 2) := ⟨⟨by decide +kernel, by decide +kernel⟩, List.mem_of_getElem? (i := 81) (by decide +kernel), List.mem_of_getElem? (i := 586) (by decide +kernel), List.mem_of_getElem? (i := 587) (by decide +kernel)⟩
theorem lw_p3 : lw_okq (⟨"HundredWords$TongueReader", "takesLike", "(LHundredWords$Tongue;)Z"⟩, 2) := ⟨⟨by decide +kernel, by decide +kernel⟩, List.mem_of_getElem? (i := 81) (by decide +kernel), List.mem_of_getElem? (i := 590) (by decide +kernel), List.mem_of_getElem? (i := 591) (by decide +kernel)⟩
theorem lw_p4 : lw_okq (⟨"HundredWords$TongueReader", "takesNewWord", "(LHundredWords$Tongue;)Z"⟩, 2) := ⟨⟨by decide +kernel, by decide +kernel⟩, List.mem_of_getElem? (i := 81) (by decide +kernel), List.mem_of_getElem? (i := 594) (by decide +kernel), List.mem_of_getElem? (i := 595) (by decide +kernel)⟩
theorem lw_p5 : lw_okq (⟨"HundredWords$TongueReader", "takesLimit", "(LHundredWords$Tongue;)Z"⟩, 2) := ⟨⟨by decide +kernel, by decide +kernel⟩, List.mem_of_getElem? (i := 81) (by decide +kernel), List.mem_of_getElem? (i := 618) (by decide +kernel), List.mem_of_getElem? (i := 619) (by decide +kernel)⟩
theorem lw_p6 : lw_okq (⟨"HundredWords$TongueReader", "takesParty", "(LHundredWords$Tongue;)Z"⟩, 2) := ⟨⟨by decide +kernel, by decide +kernel⟩, List.mem_of_getElem? (i := 81) (by decide +kernel), List.mem_of_getElem? (i := 626) (by decide +kernel), List.mem_of_getElem? (i := 627) (by decide +kernel)⟩
theorem lw_p7 : lw_okq (⟨"HundredWords$TongueReader", "takesWisher", "(LHundredWords$Tongue;)Z"⟩, 2) := ⟨⟨by decide +kernel, by decide +kernel⟩, List.mem_of_getElem? (i := 81) (by decide +kernel), List.mem_of_getElem? (i := 638) (by decide +kernel), List.mem_of_getElem? (i := 639) (by decide +kernel)⟩
theorem lw_p8 : lw_okq (⟨"HundredWords$TongueReader", "takesCases", "(LHundredWords$Tongue;LHundredWords$Told;)Z"⟩, 2) := ⟨⟨by decide +kernel, by decide +kernel⟩, List.mem_of_getElem? (i := 81) (by decide +kernel), List.mem_of_getElem? (i := 647) (by decide +kernel), List.mem_of_getElem? (i := 648) (by decide +kernel)⟩
theorem lw_p9 : lw_okq (⟨"HundredWords$TongueReader", "takesOne", "(LHundredWords$Tongue;LHundredWords$Told;I)Z"⟩, 2) := ⟨⟨by decide +kernel, by decide +kernel⟩, List.mem_of_getElem? (i := 81) (by decide +kernel), List.mem_of_getElem? (i := 655) (by decide +kernel), List.mem_of_getElem? (i := 656) (by decide +kernel)⟩
theorem lw_p10 : lw_okq (⟨"HundredWords$TongueReader", "takesWorth", "(LHundredWords$Told;)Z"⟩, 2) := ⟨⟨by decide +kernel, by decide +kernel⟩, List.mem_of_getElem? (i := 81) (by decide +kernel), List.mem_of_getElem? (i := 663) (by decide +kernel), List.mem_of_getElem? (i := 664) (by decide +kernel)⟩
theorem lw_p11 : lw_okq (⟨"HundredWords$TongueReader", "takesWordOfSort", "(LHundredWords$Tongue;I)Z"⟩, 2) := ⟨⟨by decide +kernel, by decide +kernel⟩, List.mem_of_getElem? (i := 81) (by decide +kernel), List.mem_of_getElem? (i := 671) (by decide +kernel), List.mem_of_getElem? (i := 672) (by decide +kernel)⟩
theorem lw_p12 : lw_okq (⟨"HundredWords$LawReader", "hasRoom", "(LHundredWords$Tongue;LHundredWords$Row;I)Z"⟩, 2) := ⟨⟨by decide +kernel, by decide +kernel⟩, List.mem_of_getElem? (i := 147) (by decide +kernel), List.mem_of_getElem? (i := 716) (by decide +kernel), List.mem_of_getElem? (i := 717) (by decide +kernel)⟩
theorem lw_p13 : lw_okq (⟨"HundredWords$LawReader", "takesStop", "(I)I"⟩, 2) := ⟨⟨by decide +kernel, by decide +kernel⟩, List.mem_of_getElem? (i := 147) (by decide +kernel), List.mem_of_getElem? (i := 721) (by decide +kernel), List.mem_of_getElem? (i := 722) (by decide +kernel)⟩
theorem lw_p14 : lw_okq (⟨"HundredWords$LawReader", "takesWord", "(LHundredWords$Tongue;I)I"⟩, 2) := ⟨⟨by decide +kernel, by decide +kernel⟩, List.mem_of_getElem? (i := 147) (by decide +kernel), List.mem_of_getElem? (i := 730) (by decide +kernel), List.mem_of_getElem? (i := 731) (by decide +kernel)⟩
theorem lw_p15 : lw_okq (⟨"HundredWords$Row", "weighSentence", "(LHundredWords$Tongue;)J"⟩, 9) := ⟨⟨by decide +kernel, by decide +kernel⟩, List.mem_of_getElem? (i := 301) (by decide +kernel), List.mem_of_getElem? (i := 751) (by decide +kernel), List.mem_of_getElem? (i := 752) (by decide +kernel)⟩
def lw_privs_1 : List (MethodName × Nat) := [(⟨"HundredWords", "refuse", "(I)I"⟩, 16), (⟨"HundredWords$TongueReader", "takesKind", "(LHundredWords$Tongue;)I"⟩, 2), (⟨"HundredWords$TongueReader", "takesRest", "(LHundredWords$Tongue;I)Z"⟩, 2), (⟨"HundredWords$TongueReader", "takesLike", "(LHundredWords$Tongue;)Z"⟩, 2), (⟨"HundredWords$TongueReader", "takesNewWord", "(LHundredWords$Tongue;)Z"⟩, 2), (⟨"HundredWords$TongueReader", "takesLimit", "(LHundredWords$Tongue;)Z"⟩, 2), (⟨"HundredWords$TongueReader", "takesParty", "(LHundredWords$Tongue;)Z"⟩, 2), (⟨"HundredWords$TongueReader", "takesWisher", "(LHundredWords$Tongue;)Z"⟩, 2), (⟨"HundredWords$TongueReader", "takesCases", "(LHundredWords$Tongue;LHundredWords$Told;)Z"⟩, 2), (⟨"HundredWords$TongueReader", "takesOne", "(LHundredWords$Tongue;LHundredWords$Told;I)Z"⟩, 2), (⟨"HundredWords$TongueReader", "takesWorth", "(LHundredWords$Told;)Z"⟩, 2), (⟨"HundredWords$TongueReader", "takesWordOfSort", "(LHundredWords$Tongue;I)Z"⟩, 2), (⟨"HundredWords$LawReader", "hasRoom", "(LHundredWords$Tongue;LHundredWords$Row;I)Z"⟩, 2), (⟨"HundredWords$LawReader", "takesStop", "(I)I"⟩, 2), (⟨"HundredWords$LawReader", "takesWord", "(LHundredWords$Tongue;I)I"⟩, 2), (⟨"HundredWords$Row", "weighSentence", "(LHundredWords$Tongue;)J"⟩, 9)]
theorem lw_r1 : ∀ q ∈ lw_privs_1, lw_okq q := List.forall_mem_cons.mpr ⟨lw_p0, List.forall_mem_cons.mpr ⟨lw_p1, List.forall_mem_cons.mpr ⟨lw_p2, List.forall_mem_cons.mpr ⟨lw_p3, List.forall_mem_cons.mpr ⟨lw_p4, List.forall_mem_cons.mpr ⟨lw_p5, List.forall_mem_cons.mpr ⟨lw_p6, List.forall_mem_cons.mpr ⟨lw_p7, List.forall_mem_cons.mpr ⟨lw_p8, List.forall_mem_cons.mpr ⟨lw_p9, List.forall_mem_cons.mpr ⟨lw_p10, List.forall_mem_cons.mpr ⟨lw_p11, List.forall_mem_cons.mpr ⟨lw_p12, List.forall_mem_cons.mpr ⟨lw_p13, List.forall_mem_cons.mpr ⟨lw_p14, List.forall_mem_cons.mpr ⟨lw_p15, fun _ h => absurd h List.not_mem_nil⟩⟩⟩⟩⟩⟩⟩⟩⟩⟩⟩⟩⟩⟩⟩⟩
theorem lw_p16 : lw_okq (⟨"HundredWords", "enactTrial", "()I"⟩, 16) := ⟨⟨by decide +kernel, by decide +kernel⟩, List.mem_of_getElem? (i := 23) (by decide +kernel), List.mem_of_getElem? (i := 772) (by decide +kernel), List.mem_of_getElem? (i := 773) (by decide +kernel)⟩
theorem lw_p17 : lw_okq (⟨"HundredWords$Row", "canTurn", "(LHundredWords$Tongue;I)Z"⟩, 9) := ⟨⟨by decide +kernel, by decide +kernel⟩, List.mem_of_getElem? (i := 301) (by decide +kernel), List.mem_of_getElem? (i := 851) (by decide +kernel), List.mem_of_getElem? (i := 852) (by decide +kernel)⟩
theorem lw_p18 : lw_okq (⟨"HundredWords$Row", "goesOn", "(II)Z"⟩, 9) := ⟨⟨by decide +kernel, by decide +kernel⟩, List.mem_of_getElem? (i := 301) (by decide +kernel), List.mem_of_getElem? (i := 862) (by decide +kernel), List.mem_of_getElem? (i := 863) (by decide +kernel)⟩
theorem lw_p19 : lw_okq (⟨"HundredWords$Row", "turn", "(LHundredWords$Row;I)V"⟩, 9) := ⟨⟨by decide +kernel, by decide +kernel⟩, List.mem_of_getElem? (i := 301) (by decide +kernel), List.mem_of_getElem? (i := 866) (by decide +kernel), List.mem_of_getElem? (i := 867) (by decide +kernel)⟩
theorem lw_p20 : lw_okq (⟨"HundredWords$Row", "weighBeside", "(LHundredWords$Tongue;LHundredWords$Row;I)V"⟩, 9) := ⟨⟨by decide +kernel, by decide +kernel⟩, List.mem_of_getElem? (i := 301) (by decide +kernel), List.mem_of_getElem? (i := 870) (by decide +kernel), List.mem_of_getElem? (i := 871) (by decide +kernel)⟩
theorem lw_p21 : lw_okq (⟨"HundredWords$Row", "sentenceAt", "(I)I"⟩, 9) := ⟨⟨by decide +kernel, by decide +kernel⟩, List.mem_of_getElem? (i := 301) (by decide +kernel), List.mem_of_getElem? (i := 874) (by decide +kernel), List.mem_of_getElem? (i := 875) (by decide +kernel)⟩
theorem lw_p22 : lw_okq (⟨"HundredWords", "isSpot", "(II)Z"⟩, 16) := ⟨⟨by decide +kernel, by decide +kernel⟩, List.mem_of_getElem? (i := 23) (by decide +kernel), List.mem_of_getElem? (i := 886) (by decide +kernel), List.mem_of_getElem? (i := 887) (by decide +kernel)⟩
theorem lw_p23 : lw_okq (⟨"HundredWords", "change", "(I)I"⟩, 16) := ⟨⟨by decide +kernel, by decide +kernel⟩, List.mem_of_getElem? (i := 23) (by decide +kernel), List.mem_of_getElem? (i := 890) (by decide +kernel), List.mem_of_getElem? (i := 891) (by decide +kernel)⟩
theorem lw_p24 : lw_okq (⟨"HundredWords", "isChange", "(I)Z"⟩, 16) := ⟨⟨by decide +kernel, by decide +kernel⟩, List.mem_of_getElem? (i := 23) (by decide +kernel), List.mem_of_getElem? (i := 894) (by decide +kernel), List.mem_of_getElem? (i := 895) (by decide +kernel)⟩
theorem lw_p25 : lw_okq (⟨"HundredWords", "countChanges", "(II)I"⟩, 16) := ⟨⟨by decide +kernel, by decide +kernel⟩, List.mem_of_getElem? (i := 23) (by decide +kernel), List.mem_of_getElem? (i := 918) (by decide +kernel), List.mem_of_getElem? (i := 919) (by decide +kernel)⟩
theorem lw_p26 : lw_okq (⟨"HundredWords$Shorts", "prepare", "(LHundredWords$Tongue;)V"⟩, 15) := ⟨⟨by decide +kernel, by decide +kernel⟩, List.mem_of_getElem? (i := 372) (by decide +kernel), List.mem_of_getElem? (i := 930) (by decide +kernel), List.mem_of_getElem? (i := 931) (by decide +kernel)⟩
theorem lw_p27 : lw_okq (⟨"HundredWords$Shorts", "listLiterals", "(LHundredWords$Tongue;)V"⟩, 15) := ⟨⟨by decide +kernel, by decide +kernel⟩, List.mem_of_getElem? (i := 372) (by decide +kernel), List.mem_of_getElem? (i := 934) (by decide +kernel), List.mem_of_getElem? (i := 935) (by decide +kernel)⟩
theorem lw_p28 : lw_okq (⟨"HundredWords$Shorts", "listSentences", "()V"⟩, 15) := ⟨⟨by decide +kernel, by decide +kernel⟩, List.mem_of_getElem? (i := 372) (by decide +kernel), List.mem_of_getElem? (i := 940) (by decide +kernel), List.mem_of_getElem? (i := 941) (by decide +kernel)⟩
theorem lw_p29 : lw_okq (⟨"HundredWords$Shorts", "chooseSentences", "()V"⟩, 15) := ⟨⟨by decide +kernel, by decide +kernel⟩, List.mem_of_getElem? (i := 372) (by decide +kernel), List.mem_of_getElem? (i := 944) (by decide +kernel), List.mem_of_getElem? (i := 945) (by decide +kernel)⟩
theorem lw_p30 : lw_okq (⟨"HundredWords$Shorts", "slotOf", "(J)I"⟩, 15) := ⟨⟨by decide +kernel, by decide +kernel⟩, List.mem_of_getElem? (i := 372) (by decide +kernel), List.mem_of_getElem? (i := 949) (by decide +kernel), List.mem_of_getElem? (i := 950) (by decide +kernel)⟩
theorem lw_p31 : lw_okq (⟨"HundredWords$Shorts", "wordsOf", "(I)I"⟩, 15) := ⟨⟨by decide +kernel, by decide +kernel⟩, List.mem_of_getElem? (i := 372) (by decide +kernel), List.mem_of_getElem? (i := 954) (by decide +kernel), List.mem_of_getElem? (i := 955) (by decide +kernel)⟩
def lw_privs_2 : List (MethodName × Nat) := [(⟨"HundredWords", "enactTrial", "()I"⟩, 16), (⟨"HundredWords$Row", "canTurn", "(LHundredWords$Tongue;I)Z"⟩, 9), (⟨"HundredWords$Row", "goesOn", "(II)Z"⟩, 9), (⟨"HundredWords$Row", "turn", "(LHundredWords$Row;I)V"⟩, 9), (⟨"HundredWords$Row", "weighBeside", "(LHundredWords$Tongue;LHundredWords$Row;I)V"⟩, 9), (⟨"HundredWords$Row", "sentenceAt", "(I)I"⟩, 9), (⟨"HundredWords", "isSpot", "(II)Z"⟩, 16), (⟨"HundredWords", "change", "(I)I"⟩, 16), (⟨"HundredWords", "isChange", "(I)Z"⟩, 16), (⟨"HundredWords", "countChanges", "(II)I"⟩, 16), (⟨"HundredWords$Shorts", "prepare", "(LHundredWords$Tongue;)V"⟩, 15), (⟨"HundredWords$Shorts", "listLiterals", "(LHundredWords$Tongue;)V"⟩, 15), (⟨"HundredWords$Shorts", "listSentences", "()V"⟩, 15), (⟨"HundredWords$Shorts", "chooseSentences", "()V"⟩, 15), (⟨"HundredWords$Shorts", "slotOf", "(J)I"⟩, 15), (⟨"HundredWords$Shorts", "wordsOf", "(I)I"⟩, 15)]
theorem lw_r2 : ∀ q ∈ lw_privs_2, lw_okq q := List.forall_mem_cons.mpr ⟨lw_p16, List.forall_mem_cons.mpr ⟨lw_p17, List.forall_mem_cons.mpr ⟨lw_p18, List.forall_mem_cons.mpr ⟨lw_p19, List.forall_mem_cons.mpr ⟨lw_p20, List.forall_mem_cons.mpr ⟨lw_p21, List.forall_mem_cons.mpr ⟨lw_p22, List.forall_mem_cons.mpr ⟨lw_p23, List.forall_mem_cons.mpr ⟨lw_p24, List.forall_mem_cons.mpr ⟨lw_p25, List.forall_mem_cons.mpr ⟨lw_p26, List.forall_mem_cons.mpr ⟨lw_p27, List.forall_mem_cons.mpr ⟨lw_p28, List.forall_mem_cons.mpr ⟨lw_p29, List.forall_mem_cons.mpr ⟨lw_p30, List.forall_mem_cons.mpr ⟨lw_p31, fun _ h => absurd h List.not_mem_nil⟩⟩⟩⟩⟩⟩⟩⟩⟩⟩⟩⟩⟩⟩⟩⟩
theorem lw_p32 : lw_okq (⟨"HundredWords$Shorts", "gatherFitting", "(LHundredWords$Tongue;)V"⟩, 15) := ⟨⟨by decide +kernel, by decide +kernel⟩, List.mem_of_getElem? (i := 372) (by decide +kernel), List.mem_of_getElem? (i := 958) (by decide +kernel), List.mem_of_getElem? (i := 959) (by decide +kernel)⟩
theorem lw_p33 : lw_okq (⟨"HundredWords$Shorts", "seek", "(JI)V"⟩, 15) := ⟨⟨by decide +kernel, by decide +kernel⟩, List.mem_of_getElem? (i := 372) (by decide +kernel), List.mem_of_getElem? (i := 963) (by decide +kernel), List.mem_of_getElem? (i := 964) (by decide +kernel)⟩
theorem lw_p34 : lw_okq (⟨"HundredWords$Shorts", "note", "(IIIII)V"⟩, 15) := ⟨⟨by decide +kernel, by decide +kernel⟩, List.mem_of_getElem? (i := 372) (by decide +kernel), List.mem_of_getElem? (i := 967) (by decide +kernel), List.mem_of_getElem? (i := 968) (by decide +kernel)⟩
theorem lw_p35 : lw_okq (⟨"HundredWords$Shorts", "seekPairs", "(JI)V"⟩, 15) := ⟨⟨by decide +kernel, by decide +kernel⟩, List.mem_of_getElem? (i := 372) (by decide +kernel), List.mem_of_getElem? (i := 971) (by decide +kernel), List.mem_of_getElem? (i := 972) (by decide +kernel)⟩
theorem lw_p36 : lw_okq (⟨"HundredWords$Shorts", "gatherWithin", "(J)I"⟩, 15) := ⟨⟨by decide +kernel, by decide +kernel⟩, List.mem_of_getElem? (i := 372) (by decide +kernel), List.mem_of_getElem? (i := 975) (by decide +kernel), List.mem_of_getElem? (i := 976) (by decide +kernel)⟩
theorem lw_p37 : lw_okq (⟨"HundredWords$Shorts", "weighPair", "(III)V"⟩, 15) := ⟨⟨by decide +kernel, by decide +kernel⟩, List.mem_of_getElem? (i := 372) (by decide +kernel), List.mem_of_getElem? (i := 979) (by decide +kernel), List.mem_of_getElem? (i := 980) (by decide +kernel)⟩
theorem lw_p38 : lw_okq (⟨"HundredWords$Way", "leads", "(LHundredWords$Tongue;LHundredWords$Row;LHundredWords$Row;I)Z"⟩, 1) := ⟨⟨by decide +kernel, by decide +kernel⟩, List.mem_of_getElem? (i := 424) (by decide +kernel), List.mem_of_getElem? (i := 1027) (by decide +kernel), List.mem_of_getElem? (i := 1028) (by decide +kernel)⟩
theorem lw_p39 : lw_okq (⟨"HundredWords$Tongue", "weighGains", "(JJ)V"⟩, 14) := ⟨⟨by decide +kernel, by decide +kernel⟩, List.mem_of_getElem? (i := 205) (by decide +kernel), List.mem_of_getElem? (i := 1070) (by decide +kernel), List.mem_of_getElem? (i := 1071) (by decide +kernel)⟩
theorem lw_p40 : lw_okq (⟨"HundredWords", "findsVoted", "()Z"⟩, 16) := ⟨⟨by decide +kernel, by decide +kernel⟩, List.mem_of_getElem? (i := 23) (by decide +kernel), List.mem_of_getElem? (i := 1078) (by decide +kernel), List.mem_of_getElem? (i := 1079) (by decide +kernel)⟩
theorem lw_p41 : lw_okq (⟨"HundredWords", "draw", "(I)I"⟩, 16) := ⟨⟨by decide +kernel, by decide +kernel⟩, List.mem_of_getElem? (i := 23) (by decide +kernel), List.mem_of_getElem? (i := 1114) (by decide +kernel), List.mem_of_getElem? (i := 1115) (by decide +kernel)⟩
theorem lw_p42 : lw_okq (⟨"HundredWords$Question", "takesTest", "()Z"⟩, 11) := ⟨⟨by decide +kernel, by decide +kernel⟩, List.mem_of_getElem? (i := 162) (by decide +kernel), List.mem_of_getElem? (i := 1135) (by decide +kernel), List.mem_of_getElem? (i := 1136) (by decide +kernel)⟩
theorem lw_p43 : lw_okq (⟨"HundredWords$Question", "takesBoth", "()Z"⟩, 11) := ⟨⟨by decide +kernel, by decide +kernel⟩, List.mem_of_getElem? (i := 162) (by decide +kernel), List.mem_of_getElem? (i := 1139) (by decide +kernel), List.mem_of_getElem? (i := 1140) (by decide +kernel)⟩
theorem lw_p44 : lw_okq (⟨"HundredWords$Question", "takesFact", "()Z"⟩, 11) := ⟨⟨by decide +kernel, by decide +kernel⟩, List.mem_of_getElem? (i := 162) (by decide +kernel), List.mem_of_getElem? (i := 1143) (by decide +kernel), List.mem_of_getElem? (i := 1144) (by decide +kernel)⟩
theorem lw_p45 : lw_okq (⟨"HundredWords$Question", "takesBracket", "()Z"⟩, 11) := ⟨⟨by decide +kernel, by decide +kernel⟩, List.mem_of_getElem? (i := 162) (by decide +kernel), List.mem_of_getElem? (i := 1148) (by decide +kernel), List.mem_of_getElem? (i := 1149) (by decide +kernel)⟩
theorem lw_p46 : lw_okq (⟨"HundredWords$Question", "opens", "()Z"⟩, 11) := ⟨⟨by decide +kernel, by decide +kernel⟩, List.mem_of_getElem? (i := 162) (by decide +kernel), List.mem_of_getElem? (i := 1152) (by decide +kernel), List.mem_of_getElem? (i := 1153) (by decide +kernel)⟩
theorem lw_p47 : lw_okq (⟨"HundredWords$Question", "sees", "(I)Z"⟩, 11) := ⟨⟨by decide +kernel, by decide +kernel⟩, List.mem_of_getElem? (i := 162) (by decide +kernel), List.mem_of_getElem? (i := 1157) (by decide +kernel), List.mem_of_getElem? (i := 1158) (by decide +kernel)⟩
def lw_privs_3 : List (MethodName × Nat) := [(⟨"HundredWords$Shorts", "gatherFitting", "(LHundredWords$Tongue;)V"⟩, 15), (⟨"HundredWords$Shorts", "seek", "(JI)V"⟩, 15), (⟨"HundredWords$Shorts", "note", "(IIIII)V"⟩, 15), (⟨"HundredWords$Shorts", "seekPairs", "(JI)V"⟩, 15), (⟨"HundredWords$Shorts", "gatherWithin", "(J)I"⟩, 15), (⟨"HundredWords$Shorts", "weighPair", "(III)V"⟩, 15), (⟨"HundredWords$Way", "leads", "(LHundredWords$Tongue;LHundredWords$Row;LHundredWords$Row;I)Z"⟩, 1), (⟨"HundredWords$Tongue", "weighGains", "(JJ)V"⟩, 14), (⟨"HundredWords", "findsVoted", "()Z"⟩, 16), (⟨"HundredWords", "draw", "(I)I"⟩, 16), (⟨"HundredWords$Question", "takesTest", "()Z"⟩, 11), (⟨"HundredWords$Question", "takesBoth", "()Z"⟩, 11), (⟨"HundredWords$Question", "takesFact", "()Z"⟩, 11), (⟨"HundredWords$Question", "takesBracket", "()Z"⟩, 11), (⟨"HundredWords$Question", "opens", "()Z"⟩, 11), (⟨"HundredWords$Question", "sees", "(I)Z"⟩, 11)]
theorem lw_r3 : ∀ q ∈ lw_privs_3, lw_okq q := List.forall_mem_cons.mpr ⟨lw_p32, List.forall_mem_cons.mpr ⟨lw_p33, List.forall_mem_cons.mpr ⟨lw_p34, List.forall_mem_cons.mpr ⟨lw_p35, List.forall_mem_cons.mpr ⟨lw_p36, List.forall_mem_cons.mpr ⟨lw_p37, List.forall_mem_cons.mpr ⟨lw_p38, List.forall_mem_cons.mpr ⟨lw_p39, List.forall_mem_cons.mpr ⟨lw_p40, List.forall_mem_cons.mpr ⟨lw_p41, List.forall_mem_cons.mpr ⟨lw_p42, List.forall_mem_cons.mpr ⟨lw_p43, List.forall_mem_cons.mpr ⟨lw_p44, List.forall_mem_cons.mpr ⟨lw_p45, List.forall_mem_cons.mpr ⟨lw_p46, List.forall_mem_cons.mpr ⟨lw_p47, fun _ h => absurd h List.not_mem_nil⟩⟩⟩⟩⟩⟩⟩⟩⟩⟩⟩⟩⟩⟩⟩⟩
theorem lw_p48 : lw_okq (⟨"HundredWords$Question", "takesDenied", "()Z"⟩, 11) := ⟨⟨by decide +kernel, by decide +kernel⟩, List.mem_of_getElem? (i := 162) (by decide +kernel), List.mem_of_getElem? (i := 1161) (by decide +kernel), List.mem_of_getElem? (i := 1162) (by decide +kernel)⟩
theorem lw_p49 : lw_okq (⟨"HundredWords$Question", "then", "(I)V"⟩, 11) := ⟨⟨by decide +kernel, by decide +kernel⟩, List.mem_of_getElem? (i := 162) (by decide +kernel), List.mem_of_getElem? (i := 1165) (by decide +kernel), List.mem_of_getElem? (i := 1166) (by decide +kernel)⟩
theorem lw_p50 : lw_okq (⟨"HundredWords$Question", "takesComparison", "()Z"⟩, 11) := ⟨⟨by decide +kernel, by decide +kernel⟩, List.mem_of_getElem? (i := 162) (by decide +kernel), List.mem_of_getElem? (i := 1169) (by decide +kernel), List.mem_of_getElem? (i := 1170) (by decide +kernel)⟩
theorem lw_p51 : lw_okq (⟨"HundredWords$Question", "takesSum", "()Z"⟩, 11) := ⟨⟨by decide +kernel, by decide +kernel⟩, List.mem_of_getElem? (i := 162) (by decide +kernel), List.mem_of_getElem? (i := 1173) (by decide +kernel), List.mem_of_getElem? (i := 1174) (by decide +kernel)⟩
theorem lw_p52 : lw_okq (⟨"HundredWords$Question", "takesProduct", "()Z"⟩, 11) := ⟨⟨by decide +kernel, by decide +kernel⟩, List.mem_of_getElem? (i := 162) (by decide +kernel), List.mem_of_getElem? (i := 1177) (by decide +kernel), List.mem_of_getElem? (i := 1178) (by decide +kernel)⟩
theorem lw_p53 : lw_okq (⟨"HundredWords$Question", "takesPart", "()Z"⟩, 11) := ⟨⟨by decide +kernel, by decide +kernel⟩, List.mem_of_getElem? (i := 162) (by decide +kernel), List.mem_of_getElem? (i := 1181) (by decide +kernel), List.mem_of_getElem? (i := 1182) (by decide +kernel)⟩
theorem lw_p54 : lw_okq (⟨"HundredWords$Question", "takesNumber", "()Z"⟩, 11) := ⟨⟨by decide +kernel, by decide +kernel⟩, List.mem_of_getElem? (i := 162) (by decide +kernel), List.mem_of_getElem? (i := 1185) (by decide +kernel), List.mem_of_getElem? (i := 1186) (by decide +kernel)⟩
theorem lw_p55 : lw_okq (⟨"HundredWords$Question", "takesHeld", "(I)Z"⟩, 11) := ⟨⟨by decide +kernel, by decide +kernel⟩, List.mem_of_getElem? (i := 162) (by decide +kernel), List.mem_of_getElem? (i := 1190) (by decide +kernel), List.mem_of_getElem? (i := 1191) (by decide +kernel)⟩
theorem lw_p56 : lw_okq (⟨"HundredWords$Question", "takesBorne", "()Z"⟩, 11) := ⟨⟨by decide +kernel, by decide +kernel⟩, List.mem_of_getElem? (i := 162) (by decide +kernel), List.mem_of_getElem? (i := 1194) (by decide +kernel), List.mem_of_getElem? (i := 1195) (by decide +kernel)⟩
theorem lw_p57 : lw_okq (⟨"HundredWords$Question", "valueIn", "(I)J"⟩, 11) := ⟨⟨by decide +kernel, by decide +kernel⟩, List.mem_of_getElem? (i := 162) (by decide +kernel), List.mem_of_getElem? (i := 1203) (by decide +kernel), List.mem_of_getElem? (i := 1204) (by decide +kernel)⟩
theorem lw_p58 : lw_okq (⟨"HundredWords$Question", "push", "(J)V"⟩, 11) := ⟨⟨by decide +kernel, by decide +kernel⟩, List.mem_of_getElem? (i := 162) (by decide +kernel), List.mem_of_getElem? (i := 1207) (by decide +kernel), List.mem_of_getElem? (i := 1208) (by decide +kernel)⟩
theorem lw_p59 : lw_okq (⟨"HundredWords$Question", "plain", "(II)J"⟩, 11) := ⟨⟨by decide +kernel, by decide +kernel⟩, List.mem_of_getElem? (i := 162) (by decide +kernel), List.mem_of_getElem? (i := 1211) (by decide +kernel), List.mem_of_getElem? (i := 1212) (by decide +kernel)⟩
theorem lw_p60 : lw_okq (⟨"HundredWords$Question", "pop", "()J"⟩, 11) := ⟨⟨by decide +kernel, by decide +kernel⟩, List.mem_of_getElem? (i := 162) (by decide +kernel), List.mem_of_getElem? (i := 1218) (by decide +kernel), List.mem_of_getElem? (i := 1219) (by decide +kernel)⟩
theorem lw_p61 : lw_okq (⟨"HundredWords$Question", "bornePart", "(JI)J"⟩, 11) := ⟨⟨by decide +kernel, by decide +kernel⟩, List.mem_of_getElem? (i := 162) (by decide +kernel), List.mem_of_getElem? (i := 1222) (by decide +kernel), List.mem_of_getElem? (i := 1223) (by decide +kernel)⟩
theorem lw_p62 : lw_okq (⟨"HundredWords$Question", "joined", "(JJI)J"⟩, 11) := ⟨⟨by decide +kernel, by decide +kernel⟩, List.mem_of_getElem? (i := 162) (by decide +kernel), List.mem_of_getElem? (i := 1243) (by decide +kernel), List.mem_of_getElem? (i := 1244) (by decide +kernel)⟩
theorem lw_p63 : lw_okq (⟨"HundredWords$Image", "tell", "(LHundredWords$Row;)V"⟩, 2) := ⟨⟨by decide +kernel, by decide +kernel⟩, List.mem_of_getElem? (i := 437) (by decide +kernel), List.mem_of_getElem? (i := 1256) (by decide +kernel), List.mem_of_getElem? (i := 1257) (by decide +kernel)⟩
def lw_privs_4 : List (MethodName × Nat) := [(⟨"HundredWords$Question", "takesDenied", "()Z"⟩, 11), (⟨"HundredWords$Question", "then", "(I)V"⟩, 11), (⟨"HundredWords$Question", "takesComparison", "()Z"⟩, 11), (⟨"HundredWords$Question", "takesSum", "()Z"⟩, 11), (⟨"HundredWords$Question", "takesProduct", "()Z"⟩, 11), (⟨"HundredWords$Question", "takesPart", "()Z"⟩, 11), (⟨"HundredWords$Question", "takesNumber", "()Z"⟩, 11), (⟨"HundredWords$Question", "takesHeld", "(I)Z"⟩, 11), (⟨"HundredWords$Question", "takesBorne", "()Z"⟩, 11), (⟨"HundredWords$Question", "valueIn", "(I)J"⟩, 11), (⟨"HundredWords$Question", "push", "(J)V"⟩, 11), (⟨"HundredWords$Question", "plain", "(II)J"⟩, 11), (⟨"HundredWords$Question", "pop", "()J"⟩, 11), (⟨"HundredWords$Question", "bornePart", "(JI)J"⟩, 11), (⟨"HundredWords$Question", "joined", "(JJI)J"⟩, 11), (⟨"HundredWords$Image", "tell", "(LHundredWords$Row;)V"⟩, 2)]
theorem lw_r4 : ∀ q ∈ lw_privs_4, lw_okq q := List.forall_mem_cons.mpr ⟨lw_p48, List.forall_mem_cons.mpr ⟨lw_p49, List.forall_mem_cons.mpr ⟨lw_p50, List.forall_mem_cons.mpr ⟨lw_p51, List.forall_mem_cons.mpr ⟨lw_p52, List.forall_mem_cons.mpr ⟨lw_p53, List.forall_mem_cons.mpr ⟨lw_p54, List.forall_mem_cons.mpr ⟨lw_p55, List.forall_mem_cons.mpr ⟨lw_p56, List.forall_mem_cons.mpr ⟨lw_p57, List.forall_mem_cons.mpr ⟨lw_p58, List.forall_mem_cons.mpr ⟨lw_p59, List.forall_mem_cons.mpr ⟨lw_p60, List.forall_mem_cons.mpr ⟨lw_p61, List.forall_mem_cons.mpr ⟨lw_p62, List.forall_mem_cons.mpr ⟨lw_p63, fun _ h => absurd h List.not_mem_nil⟩⟩⟩⟩⟩⟩⟩⟩⟩⟩⟩⟩⟩⟩⟩⟩
theorem lw_p64 : lw_okq (⟨"HundredWords$Image", "add", "(I)V"⟩, 2) := ⟨⟨by decide +kernel, by decide +kernel⟩, List.mem_of_getElem? (i := 437) (by decide +kernel), List.mem_of_getElem? (i := 1260) (by decide +kernel), List.mem_of_getElem? (i := 1261) (by decide +kernel)⟩
theorem lw_p65 : lw_okq (⟨"HundredWords", "isImage", "()Z"⟩, 16) := ⟨⟨by decide +kernel, by decide +kernel⟩, List.mem_of_getElem? (i := 23) (by decide +kernel), List.mem_of_getElem? (i := 1275) (by decide +kernel), List.mem_of_getElem? (i := 1276) (by decide +kernel)⟩
theorem lw_p66 : lw_okq (⟨"HundredWordsModel", "begins", "()V"⟩, 98) := ⟨⟨by decide +kernel, by decide +kernel⟩, List.mem_of_getElem? (i := 1296) (by decide +kernel), List.mem_of_getElem? (i := 1610) (by decide +kernel), List.mem_of_getElem? (i := 1611) (by decide +kernel)⟩
theorem lw_p67 : lw_okq (⟨"HundredWordsModel", "look", "()I"⟩, 98) := ⟨⟨by decide +kernel, by decide +kernel⟩, List.mem_of_getElem? (i := 1296) (by decide +kernel), List.mem_of_getElem? (i := 1614) (by decide +kernel), List.mem_of_getElem? (i := 1615) (by decide +kernel)⟩
theorem lw_p68 : lw_okq (⟨"HundredWordsModel", "statementTold", "()V"⟩, 98) := ⟨⟨by decide +kernel, by decide +kernel⟩, List.mem_of_getElem? (i := 1296) (by decide +kernel), List.mem_of_getElem? (i := 1618) (by decide +kernel), List.mem_of_getElem? (i := 1619) (by decide +kernel)⟩
theorem lw_p69 : lw_okq (⟨"HundredWordsModel", "fail", "(II)V"⟩, 98) := ⟨⟨by decide +kernel, by decide +kernel⟩, List.mem_of_getElem? (i := 1296) (by decide +kernel), List.mem_of_getElem? (i := 1622) (by decide +kernel), List.mem_of_getElem? (i := 1623) (by decide +kernel)⟩
theorem lw_p70 : lw_okq (⟨"HundredWordsModel", "takes", "([C)Z"⟩, 98) := ⟨⟨by decide +kernel, by decide +kernel⟩, List.mem_of_getElem? (i := 1296) (by decide +kernel), List.mem_of_getElem? (i := 1626) (by decide +kernel), List.mem_of_getElem? (i := 1627) (by decide +kernel)⟩
theorem lw_p71 : lw_okq (⟨"HundredWordsModel", "isHere", "([C)Z"⟩, 98) := ⟨⟨by decide +kernel, by decide +kernel⟩, List.mem_of_getElem? (i := 1296) (by decide +kernel), List.mem_of_getElem? (i := 1630) (by decide +kernel), List.mem_of_getElem? (i := 1631) (by decide +kernel)⟩
theorem lw_p72 : lw_okq (⟨"HundredWordsModel", "newWord", "(II)V"⟩, 98) := ⟨⟨by decide +kernel, by decide +kernel⟩, List.mem_of_getElem? (i := 1296) (by decide +kernel), List.mem_of_getElem? (i := 1637) (by decide +kernel), List.mem_of_getElem? (i := 1638) (by decide +kernel)⟩
theorem lw_p73 : lw_okq (⟨"HundredWordsModel", "freeFrom", "(II)I"⟩, 98) := ⟨⟨by decide +kernel, by decide +kernel⟩, List.mem_of_getElem? (i := 1296) (by decide +kernel), List.mem_of_getElem? (i := 1641) (by decide +kernel), List.mem_of_getElem? (i := 1642) (by decide +kernel)⟩
theorem lw_p74 : lw_okq (⟨"HundredWordsModel", "newSpelt", "()J"⟩, 98) := ⟨⟨by decide +kernel, by decide +kernel⟩, List.mem_of_getElem? (i := 1296) (by decide +kernel), List.mem_of_getElem? (i := 1645) (by decide +kernel), List.mem_of_getElem? (i := 1646) (by decide +kernel)⟩
theorem lw_p75 : lw_okq (⟨"HundredWordsModel", "spelt", "()J"⟩, 98) := ⟨⟨by decide +kernel, by decide +kernel⟩, List.mem_of_getElem? (i := 1296) (by decide +kernel), List.mem_of_getElem? (i := 1649) (by decide +kernel), List.mem_of_getElem? (i := 1650) (by decide +kernel)⟩
theorem lw_p76 : lw_okq (⟨"HundredWordsModel", "isOwnHere", "()Z"⟩, 98) := ⟨⟨by decide +kernel, by decide +kernel⟩, List.mem_of_getElem? (i := 1296) (by decide +kernel), List.mem_of_getElem? (i := 1653) (by decide +kernel), List.mem_of_getElem? (i := 1654) (by decide +kernel)⟩
theorem lw_p77 : lw_okq (⟨"HundredWordsModel", "signOf", "(J)I"⟩, 98) := ⟨⟨by decide +kernel, by decide +kernel⟩, List.mem_of_getElem? (i := 1296) (by decide +kernel), List.mem_of_getElem? (i := 1659) (by decide +kernel), List.mem_of_getElem? (i := 1660) (by decide +kernel)⟩
theorem lw_p78 : lw_okq (⟨"HundredWordsModel", "partyOf", "(J)I"⟩, 98) := ⟨⟨by decide +kernel, by decide +kernel⟩, List.mem_of_getElem? (i := 1296) (by decide +kernel), List.mem_of_getElem? (i := 1663) (by decide +kernel), List.mem_of_getElem? (i := 1664) (by decide +kernel)⟩
theorem lw_p79 : lw_okq (⟨"HundredWordsModel", "newLike", "(I)V"⟩, 98) := ⟨⟨by decide +kernel, by decide +kernel⟩, List.mem_of_getElem? (i := 1296) (by decide +kernel), List.mem_of_getElem? (i := 1667) (by decide +kernel), List.mem_of_getElem? (i := 1668) (by decide +kernel)⟩
def lw_privs_5 : List (MethodName × Nat) := [(⟨"HundredWords$Image", "add", "(I)V"⟩, 2), (⟨"HundredWords", "isImage", "()Z"⟩, 16), (⟨"HundredWordsModel", "begins", "()V"⟩, 98), (⟨"HundredWordsModel", "look", "()I"⟩, 98), (⟨"HundredWordsModel", "statementTold", "()V"⟩, 98), (⟨"HundredWordsModel", "fail", "(II)V"⟩, 98), (⟨"HundredWordsModel", "takes", "([C)Z"⟩, 98), (⟨"HundredWordsModel", "isHere", "([C)Z"⟩, 98), (⟨"HundredWordsModel", "newWord", "(II)V"⟩, 98), (⟨"HundredWordsModel", "freeFrom", "(II)I"⟩, 98), (⟨"HundredWordsModel", "newSpelt", "()J"⟩, 98), (⟨"HundredWordsModel", "spelt", "()J"⟩, 98), (⟨"HundredWordsModel", "isOwnHere", "()Z"⟩, 98), (⟨"HundredWordsModel", "signOf", "(J)I"⟩, 98), (⟨"HundredWordsModel", "partyOf", "(J)I"⟩, 98), (⟨"HundredWordsModel", "newLike", "(I)V"⟩, 98)]
theorem lw_r5 : ∀ q ∈ lw_privs_5, lw_okq q := List.forall_mem_cons.mpr ⟨lw_p64, List.forall_mem_cons.mpr ⟨lw_p65, List.forall_mem_cons.mpr ⟨lw_p66, List.forall_mem_cons.mpr ⟨lw_p67, List.forall_mem_cons.mpr ⟨lw_p68, List.forall_mem_cons.mpr ⟨lw_p69, List.forall_mem_cons.mpr ⟨lw_p70, List.forall_mem_cons.mpr ⟨lw_p71, List.forall_mem_cons.mpr ⟨lw_p72, List.forall_mem_cons.mpr ⟨lw_p73, List.forall_mem_cons.mpr ⟨lw_p74, List.forall_mem_cons.mpr ⟨lw_p75, List.forall_mem_cons.mpr ⟨lw_p76, List.forall_mem_cons.mpr ⟨lw_p77, List.forall_mem_cons.mpr ⟨lw_p78, List.forall_mem_cons.mpr ⟨lw_p79, fun _ h => absurd h List.not_mem_nil⟩⟩⟩⟩⟩⟩⟩⟩⟩⟩⟩⟩⟩⟩⟩⟩
theorem lw_p80 : lw_okq (⟨"HundredWordsModel", "number", "(II)I"⟩, 98) := ⟨⟨by decide +kernel, by decide +kernel⟩, List.mem_of_getElem? (i := 1296) (by decide +kernel), List.mem_of_getElem? (i := 1671) (by decide +kernel), List.mem_of_getElem? (i := 1672) (by decide +kernel)⟩
theorem lw_p81 : lw_okq (⟨"HundredWordsModel", "newParty", "(I)V"⟩, 98) := ⟨⟨by decide +kernel, by decide +kernel⟩, List.mem_of_getElem? (i := 1296) (by decide +kernel), List.mem_of_getElem? (i := 1681) (by decide +kernel), List.mem_of_getElem? (i := 1682) (by decide +kernel)⟩
theorem lw_p82 : lw_okq (⟨"HundredWordsModel", "asks", "([C)V"⟩, 98) := ⟨⟨by decide +kernel, by decide +kernel⟩, List.mem_of_getElem? (i := 1296) (by decide +kernel), List.mem_of_getElem? (i := 1685) (by decide +kernel), List.mem_of_getElem? (i := 1686) (by decide +kernel)⟩
theorem lw_p83 : lw_okq (⟨"HundredWordsModel", "newRuled", "(III)V"⟩, 98) := ⟨⟨by decide +kernel, by decide +kernel⟩, List.mem_of_getElem? (i := 1296) (by decide +kernel), List.mem_of_getElem? (i := 1689) (by decide +kernel), List.mem_of_getElem? (i := 1690) (by decide +kernel)⟩
theorem lw_p84 : lw_okq (⟨"HundredWordsModel", "oneOf", "(I)I"⟩, 98) := ⟨⟨by decide +kernel, by decide +kernel⟩, List.mem_of_getElem? (i := 1296) (by decide +kernel), List.mem_of_getElem? (i := 1696) (by decide +kernel), List.mem_of_getElem? (i := 1697) (by decide +kernel)⟩
theorem lw_p85 : lw_okq (⟨"HundredWordsModel", "asksSign", "(I)V"⟩, 98) := ⟨⟨by decide +kernel, by decide +kernel⟩, List.mem_of_getElem? (i := 1296) (by decide +kernel), List.mem_of_getElem? (i := 1700) (by decide +kernel), List.mem_of_getElem? (i := 1701) (by decide +kernel)⟩
theorem lw_p86 : lw_okq (⟨"HundredWordsModel", "takesSign", "(I)Z"⟩, 98) := ⟨⟨by decide +kernel, by decide +kernel⟩, List.mem_of_getElem? (i := 1296) (by decide +kernel), List.mem_of_getElem? (i := 1704) (by decide +kernel), List.mem_of_getElem? (i := 1705) (by decide +kernel)⟩
theorem lw_p87 : lw_okq (⟨"HundredWordsModel", "hasEnded", "()Z"⟩, 98) := ⟨⟨by decide +kernel, by decide +kernel⟩, List.mem_of_getElem? (i := 1296) (by decide +kernel), List.mem_of_getElem? (i := 1708) (by decide +kernel), List.mem_of_getElem? (i := 1709) (by decide +kernel)⟩
theorem lw_p88 : lw_okq (⟨"HundredWordsModel", "stands", "()V"⟩, 98) := ⟨⟨by decide +kernel, by decide +kernel⟩, List.mem_of_getElem? (i := 1296) (by decide +kernel), List.mem_of_getElem? (i := 1712) (by decide +kernel), List.mem_of_getElem? (i := 1713) (by decide +kernel)⟩
theorem lw_p89 : lw_okq (⟨"HundredWordsModel", "sets", "()V"⟩, 98) := ⟨⟨by decide +kernel, by decide +kernel⟩, List.mem_of_getElem? (i := 1296) (by decide +kernel), List.mem_of_getElem? (i := 1716) (by decide +kernel), List.mem_of_getElem? (i := 1717) (by decide +kernel)⟩
theorem lw_p90 : lw_okq (⟨"HundredWordsModel", "casesMany", "()I"⟩, 98) := ⟨⟨by decide +kernel, by decide +kernel⟩, List.mem_of_getElem? (i := 1296) (by decide +kernel), List.mem_of_getElem? (i := 1720) (by decide +kernel), List.mem_of_getElem? (i := 1721) (by decide +kernel)⟩
theorem lw_p91 : lw_okq (⟨"HundredWordsModel", "many", "(I)I"⟩, 98) := ⟨⟨by decide +kernel, by decide +kernel⟩, List.mem_of_getElem? (i := 1296) (by decide +kernel), List.mem_of_getElem? (i := 1724) (by decide +kernel), List.mem_of_getElem? (i := 1725) (by decide +kernel)⟩
theorem lw_p92 : lw_okq (⟨"HundredWordsModel", "partOf", "(II)I"⟩, 98) := ⟨⟨by decide +kernel, by decide +kernel⟩, List.mem_of_getElem? (i := 1296) (by decide +kernel), List.mem_of_getElem? (i := 1728) (by decide +kernel), List.mem_of_getElem? (i := 1729) (by decide +kernel)⟩
theorem lw_p93 : lw_okq (⟨"HundredWordsModel", "isOfRuled", "(II)Z"⟩, 98) := ⟨⟨by decide +kernel, by decide +kernel⟩, List.mem_of_getElem? (i := 1296) (by decide +kernel), List.mem_of_getElem? (i := 1732) (by decide +kernel), List.mem_of_getElem? (i := 1733) (by decide +kernel)⟩
theorem lw_p94 : lw_okq (⟨"HundredWordsModel", "shortsTold", "()V"⟩, 98) := ⟨⟨by decide +kernel, by decide +kernel⟩, List.mem_of_getElem? (i := 1296) (by decide +kernel), List.mem_of_getElem? (i := 1736) (by decide +kernel), List.mem_of_getElem? (i := 1737) (by decide +kernel)⟩
theorem lw_p95 : lw_okq (⟨"HundredWordsModel", "literalSet", "(I)J"⟩, 98) := ⟨⟨by decide +kernel, by decide +kernel⟩, List.mem_of_getElem? (i := 1296) (by decide +kernel), List.mem_of_getElem? (i := 1740) (by decide +kernel), List.mem_of_getElem? (i := 1741) (by decide +kernel)⟩
def lw_privs_6 : List (MethodName × Nat) := [(⟨"HundredWordsModel", "number", "(II)I"⟩, 98), (⟨"HundredWordsModel", "newParty", "(I)V"⟩, 98), (⟨"HundredWordsModel", "asks", "([C)V"⟩, 98), (⟨"HundredWordsModel", "newRuled", "(III)V"⟩, 98), (⟨"HundredWordsModel", "oneOf", "(I)I"⟩, 98), (⟨"HundredWordsModel", "asksSign", "(I)V"⟩, 98), (⟨"HundredWordsModel", "takesSign", "(I)Z"⟩, 98), (⟨"HundredWordsModel", "hasEnded", "()Z"⟩, 98), (⟨"HundredWordsModel", "stands", "()V"⟩, 98), (⟨"HundredWordsModel", "sets", "()V"⟩, 98), (⟨"HundredWordsModel", "casesMany", "()I"⟩, 98), (⟨"HundredWordsModel", "many", "(I)I"⟩, 98), (⟨"HundredWordsModel", "partOf", "(II)I"⟩, 98), (⟨"HundredWordsModel", "isOfRuled", "(II)Z"⟩, 98), (⟨"HundredWordsModel", "shortsTold", "()V"⟩, 98), (⟨"HundredWordsModel", "literalSet", "(I)J"⟩, 98)]
theorem lw_r6 : ∀ q ∈ lw_privs_6, lw_okq q := List.forall_mem_cons.mpr ⟨lw_p80, List.forall_mem_cons.mpr ⟨lw_p81, List.forall_mem_cons.mpr ⟨lw_p82, List.forall_mem_cons.mpr ⟨lw_p83, List.forall_mem_cons.mpr ⟨lw_p84, List.forall_mem_cons.mpr ⟨lw_p85, List.forall_mem_cons.mpr ⟨lw_p86, List.forall_mem_cons.mpr ⟨lw_p87, List.forall_mem_cons.mpr ⟨lw_p88, List.forall_mem_cons.mpr ⟨lw_p89, List.forall_mem_cons.mpr ⟨lw_p90, List.forall_mem_cons.mpr ⟨lw_p91, List.forall_mem_cons.mpr ⟨lw_p92, List.forall_mem_cons.mpr ⟨lw_p93, List.forall_mem_cons.mpr ⟨lw_p94, List.forall_mem_cons.mpr ⟨lw_p95, fun _ h => absurd h List.not_mem_nil⟩⟩⟩⟩⟩⟩⟩⟩⟩⟩⟩⟩⟩⟩⟩⟩
theorem lw_p96 : lw_okq (⟨"HundredWordsModel", "literalWords", "(I)I"⟩, 98) := ⟨⟨by decide +kernel, by decide +kernel⟩, List.mem_of_getElem? (i := 1296) (by decide +kernel), List.mem_of_getElem? (i := 1745) (by decide +kernel), List.mem_of_getElem? (i := 1746) (by decide +kernel)⟩
theorem lw_p97 : lw_okq (⟨"HundredWordsModel", "shortIs", "(JI)V"⟩, 98) := ⟨⟨by decide +kernel, by decide +kernel⟩, List.mem_of_getElem? (i := 1296) (by decide +kernel), List.mem_of_getElem? (i := 1749) (by decide +kernel), List.mem_of_getElem? (i := 1750) (by decide +kernel)⟩
theorem lw_p98 : lw_okq (⟨"HundredWordsModel", "isRoom", "()Z"⟩, 98) := ⟨⟨by decide +kernel, by decide +kernel⟩, List.mem_of_getElem? (i := 1296) (by decide +kernel), List.mem_of_getElem? (i := 1757) (by decide +kernel), List.mem_of_getElem? (i := 1758) (by decide +kernel)⟩
theorem lw_p99 : lw_okq (⟨"HundredWordsModel", "sentenceTold", "()V"⟩, 98) := ⟨⟨by decide +kernel, by decide +kernel⟩, List.mem_of_getElem? (i := 1296) (by decide +kernel), List.mem_of_getElem? (i := 1761) (by decide +kernel), List.mem_of_getElem? (i := 1762) (by decide +kernel)⟩
theorem lw_p100 : lw_okq (⟨"HundredWordsModel", "termTold", "()V"⟩, 98) := ⟨⟨by decide +kernel, by decide +kernel⟩, List.mem_of_getElem? (i := 1296) (by decide +kernel), List.mem_of_getElem? (i := 1765) (by decide +kernel), List.mem_of_getElem? (i := 1766) (by decide +kernel)⟩
theorem lw_p101 : lw_okq (⟨"HundredWordsModel", "reads", "(I)V"⟩, 98) := ⟨⟨by decide +kernel, by decide +kernel⟩, List.mem_of_getElem? (i := 1296) (by decide +kernel), List.mem_of_getElem? (i := 1769) (by decide +kernel), List.mem_of_getElem? (i := 1770) (by decide +kernel)⟩
theorem lw_p102 : lw_okq (⟨"HundredWordsModel", "standing", "(J)I"⟩, 98) := ⟨⟨by decide +kernel, by decide +kernel⟩, List.mem_of_getElem? (i := 1296) (by decide +kernel), List.mem_of_getElem? (i := 1773) (by decide +kernel), List.mem_of_getElem? (i := 1774) (by decide +kernel)⟩
theorem lw_p103 : lw_okq (⟨"HundredWordsModel", "triesRead", "()V"⟩, 98) := ⟨⟨by decide +kernel, by decide +kernel⟩, List.mem_of_getElem? (i := 1296) (by decide +kernel), List.mem_of_getElem? (i := 1777) (by decide +kernel), List.mem_of_getElem? (i := 1778) (by decide +kernel)⟩
theorem lw_p104 : lw_okq (⟨"HundredWordsModel", "keepsPeace", "()Z"⟩, 98) := ⟨⟨by decide +kernel, by decide +kernel⟩, List.mem_of_getElem? (i := 1296) (by decide +kernel), List.mem_of_getElem? (i := 1781) (by decide +kernel), List.mem_of_getElem? (i := 1782) (by decide +kernel)⟩
theorem lw_p105 : lw_okq (⟨"HundredWordsModel", "forbidden", "()J"⟩, 98) := ⟨⟨by decide +kernel, by decide +kernel⟩, List.mem_of_getElem? (i := 1296) (by decide +kernel), List.mem_of_getElem? (i := 1785) (by decide +kernel), List.mem_of_getElem? (i := 1786) (by decide +kernel)⟩
theorem lw_p106 : lw_okq (⟨"HundredWordsModel", "setOf", "(I)J"⟩, 98) := ⟨⟨by decide +kernel, by decide +kernel⟩, List.mem_of_getElem? (i := 1296) (by decide +kernel), List.mem_of_getElem? (i := 1789) (by decide +kernel), List.mem_of_getElem? (i := 1790) (by decide +kernel)⟩
theorem lw_p107 : lw_okq (⟨"HundredWordsModel", "behind", "(I)I"⟩, 98) := ⟨⟨by decide +kernel, by decide +kernel⟩, List.mem_of_getElem? (i := 1296) (by decide +kernel), List.mem_of_getElem? (i := 1793) (by decide +kernel), List.mem_of_getElem? (i := 1794) (by decide +kernel)⟩
theorem lw_p108 : lw_okq (⟨"HundredWordsModel", "keeps", "()V"⟩, 98) := ⟨⟨by decide +kernel, by decide +kernel⟩, List.mem_of_getElem? (i := 1296) (by decide +kernel), List.mem_of_getElem? (i := 1797) (by decide +kernel), List.mem_of_getElem? (i := 1798) (by decide +kernel)⟩
theorem lw_p109 : lw_okq (⟨"HundredWordsModel", "laysTried", "(I)V"⟩, 98) := ⟨⟨by decide +kernel, by decide +kernel⟩, List.mem_of_getElem? (i := 1296) (by decide +kernel), List.mem_of_getElem? (i := 1801) (by decide +kernel), List.mem_of_getElem? (i := 1802) (by decide +kernel)⟩
theorem lw_p110 : lw_okq (⟨"HundredWordsModel", "nameOf", "(I)J"⟩, 98) := ⟨⟨by decide +kernel, by decide +kernel⟩, List.mem_of_getElem? (i := 1296) (by decide +kernel), List.mem_of_getElem? (i := 1817) (by decide +kernel), List.mem_of_getElem? (i := 1818) (by decide +kernel)⟩
theorem lw_p111 : lw_okq (⟨"HundredWordsModel", "triesLaw", "(I)V"⟩, 98) := ⟨⟨by decide +kernel, by decide +kernel⟩, List.mem_of_getElem? (i := 1296) (by decide +kernel), List.mem_of_getElem? (i := 1834) (by decide +kernel), List.mem_of_getElem? (i := 1835) (by decide +kernel)⟩
def lw_privs_7 : List (MethodName × Nat) := [(⟨"HundredWordsModel", "literalWords", "(I)I"⟩, 98), (⟨"HundredWordsModel", "shortIs", "(JI)V"⟩, 98), (⟨"HundredWordsModel", "isRoom", "()Z"⟩, 98), (⟨"HundredWordsModel", "sentenceTold", "()V"⟩, 98), (⟨"HundredWordsModel", "termTold", "()V"⟩, 98), (⟨"HundredWordsModel", "reads", "(I)V"⟩, 98), (⟨"HundredWordsModel", "standing", "(J)I"⟩, 98), (⟨"HundredWordsModel", "triesRead", "()V"⟩, 98), (⟨"HundredWordsModel", "keepsPeace", "()Z"⟩, 98), (⟨"HundredWordsModel", "forbidden", "()J"⟩, 98), (⟨"HundredWordsModel", "setOf", "(I)J"⟩, 98), (⟨"HundredWordsModel", "behind", "(I)I"⟩, 98), (⟨"HundredWordsModel", "keeps", "()V"⟩, 98), (⟨"HundredWordsModel", "laysTried", "(I)V"⟩, 98), (⟨"HundredWordsModel", "nameOf", "(I)J"⟩, 98), (⟨"HundredWordsModel", "triesLaw", "(I)V"⟩, 98)]
theorem lw_r7 : ∀ q ∈ lw_privs_7, lw_okq q := List.forall_mem_cons.mpr ⟨lw_p96, List.forall_mem_cons.mpr ⟨lw_p97, List.forall_mem_cons.mpr ⟨lw_p98, List.forall_mem_cons.mpr ⟨lw_p99, List.forall_mem_cons.mpr ⟨lw_p100, List.forall_mem_cons.mpr ⟨lw_p101, List.forall_mem_cons.mpr ⟨lw_p102, List.forall_mem_cons.mpr ⟨lw_p103, List.forall_mem_cons.mpr ⟨lw_p104, List.forall_mem_cons.mpr ⟨lw_p105, List.forall_mem_cons.mpr ⟨lw_p106, List.forall_mem_cons.mpr ⟨lw_p107, List.forall_mem_cons.mpr ⟨lw_p108, List.forall_mem_cons.mpr ⟨lw_p109, List.forall_mem_cons.mpr ⟨lw_p110, List.forall_mem_cons.mpr ⟨lw_p111, fun _ h => absurd h List.not_mem_nil⟩⟩⟩⟩⟩⟩⟩⟩⟩⟩⟩⟩⟩⟩⟩⟩
theorem lw_p112 : lw_okq (⟨"HundredWordsModel", "wordsTried", "()I"⟩, 98) := ⟨⟨by decide +kernel, by decide +kernel⟩, List.mem_of_getElem? (i := 1296) (by decide +kernel), List.mem_of_getElem? (i := 1838) (by decide +kernel), List.mem_of_getElem? (i := 1839) (by decide +kernel)⟩
theorem lw_p113 : lw_okq (⟨"HundredWordsModel", "needless", "()I"⟩, 98) := ⟨⟨by decide +kernel, by decide +kernel⟩, List.mem_of_getElem? (i := 1296) (by decide +kernel), List.mem_of_getElem? (i := 1845) (by decide +kernel), List.mem_of_getElem? (i := 1846) (by decide +kernel)⟩
theorem lw_p114 : lw_okq (⟨"HundredWordsModel", "isCase", "(I)Z"⟩, 98) := ⟨⟨by decide +kernel, by decide +kernel⟩, List.mem_of_getElem? (i := 1296) (by decide +kernel), List.mem_of_getElem? (i := 1853) (by decide +kernel), List.mem_of_getElem? (i := 1854) (by decide +kernel)⟩
theorem lw_p115 : lw_okq (⟨"HundredWordsModel", "forbiddenBy", "(I)J"⟩, 98) := ⟨⟨by decide +kernel, by decide +kernel⟩, List.mem_of_getElem? (i := 1296) (by decide +kernel), List.mem_of_getElem? (i := 1857) (by decide +kernel), List.mem_of_getElem? (i := 1858) (by decide +kernel)⟩
theorem lw_p116 : lw_okq (⟨"HundredWordsModel", "bears", "(II)Z"⟩, 98) := ⟨⟨by decide +kernel, by decide +kernel⟩, List.mem_of_getElem? (i := 1296) (by decide +kernel), List.mem_of_getElem? (i := 1869) (by decide +kernel), List.mem_of_getElem? (i := 1870) (by decide +kernel)⟩
theorem lw_p117 : lw_okq (⟨"HundredWordsModel", "strikes", "(I)V"⟩, 98) := ⟨⟨by decide +kernel, by decide +kernel⟩, List.mem_of_getElem? (i := 1296) (by decide +kernel), List.mem_of_getElem? (i := 1873) (by decide +kernel), List.mem_of_getElem? (i := 1874) (by decide +kernel)⟩
theorem lw_p118 : lw_okq (⟨"HundredWordsModel", "isLawful", "()Z"⟩, 98) := ⟨⟨by decide +kernel, by decide +kernel⟩, List.mem_of_getElem? (i := 1296) (by decide +kernel), List.mem_of_getElem? (i := 1877) (by decide +kernel), List.mem_of_getElem? (i := 1878) (by decide +kernel)⟩
theorem lw_p119 : lw_okq (⟨"HundredWordsModel", "isWordSign", "(I)Z"⟩, 98) := ⟨⟨by decide +kernel, by decide +kernel⟩, List.mem_of_getElem? (i := 1296) (by decide +kernel), List.mem_of_getElem? (i := 1881) (by decide +kernel), List.mem_of_getElem? (i := 1882) (by decide +kernel)⟩
theorem lw_p120 : lw_okq (⟨"HundredWordsModel", "makes", "(III)I"⟩, 98) := ⟨⟨by decide +kernel, by decide +kernel⟩, List.mem_of_getElem? (i := 1296) (by decide +kernel), List.mem_of_getElem? (i := 1897) (by decide +kernel), List.mem_of_getElem? (i := 1898) (by decide +kernel)⟩
theorem lw_p121 : lw_okq (⟨"HundredWordsModel", "triesOther", "(IIII)Z"⟩, 98) := ⟨⟨by decide +kernel, by decide +kernel⟩, List.mem_of_getElem? (i := 1296) (by decide +kernel), List.mem_of_getElem? (i := 1901) (by decide +kernel), List.mem_of_getElem? (i := 1902) (by decide +kernel)⟩
theorem lw_p122 : lw_okq (⟨"HundredWordsModel", "putsIn", "(II)V"⟩, 98) := ⟨⟨by decide +kernel, by decide +kernel⟩, List.mem_of_getElem? (i := 1296) (by decide +kernel), List.mem_of_getElem? (i := 1906) (by decide +kernel), List.mem_of_getElem? (i := 1907) (by decide +kernel)⟩
theorem lw_p123 : lw_okq (⟨"HundredWordsModel", "isChange", "()Z"⟩, 98) := ⟨⟨by decide +kernel, by decide +kernel⟩, List.mem_of_getElem? (i := 1296) (by decide +kernel), List.mem_of_getElem? (i := 1910) (by decide +kernel), List.mem_of_getElem? (i := 1911) (by decide +kernel)⟩
theorem lw_p124 : lw_okq (⟨"HundredWordsModel", "finds", "(J)V"⟩, 98) := ⟨⟨by decide +kernel, by decide +kernel⟩, List.mem_of_getElem? (i := 1296) (by decide +kernel), List.mem_of_getElem? (i := 1932) (by decide +kernel), List.mem_of_getElem? (i := 1933) (by decide +kernel)⟩
theorem lw_p125 : lw_okq (⟨"HundredWordsModel", "isFewer", "(III)V"⟩, 98) := ⟨⟨by decide +kernel, by decide +kernel⟩, List.mem_of_getElem? (i := 1296) (by decide +kernel), List.mem_of_getElem? (i := 1936) (by decide +kernel), List.mem_of_getElem? (i := 1937) (by decide +kernel)⟩
theorem lw_p126 : lw_okq (⟨"HundredWordsModel", "isFitting", "(I)Z"⟩, 98) := ⟨⟨by decide +kernel, by decide +kernel⟩, List.mem_of_getElem? (i := 1296) (by decide +kernel), List.mem_of_getElem? (i := 1948) (by decide +kernel), List.mem_of_getElem? (i := 1949) (by decide +kernel)⟩
theorem lw_p127 : lw_okq (⟨"HundredWordsModel", "judgedSet", "(I)J"⟩, 98) := ⟨⟨by decide +kernel, by decide +kernel⟩, List.mem_of_getElem? (i := 1296) (by decide +kernel), List.mem_of_getElem? (i := 1952) (by decide +kernel), List.mem_of_getElem? (i := 1953) (by decide +kernel)⟩
def lw_privs_8 : List (MethodName × Nat) := [(⟨"HundredWordsModel", "wordsTried", "()I"⟩, 98), (⟨"HundredWordsModel", "needless", "()I"⟩, 98), (⟨"HundredWordsModel", "isCase", "(I)Z"⟩, 98), (⟨"HundredWordsModel", "forbiddenBy", "(I)J"⟩, 98), (⟨"HundredWordsModel", "bears", "(II)Z"⟩, 98), (⟨"HundredWordsModel", "strikes", "(I)V"⟩, 98), (⟨"HundredWordsModel", "isLawful", "()Z"⟩, 98), (⟨"HundredWordsModel", "isWordSign", "(I)Z"⟩, 98), (⟨"HundredWordsModel", "makes", "(III)I"⟩, 98), (⟨"HundredWordsModel", "triesOther", "(IIII)Z"⟩, 98), (⟨"HundredWordsModel", "putsIn", "(II)V"⟩, 98), (⟨"HundredWordsModel", "isChange", "()Z"⟩, 98), (⟨"HundredWordsModel", "finds", "(J)V"⟩, 98), (⟨"HundredWordsModel", "isFewer", "(III)V"⟩, 98), (⟨"HundredWordsModel", "isFitting", "(I)Z"⟩, 98), (⟨"HundredWordsModel", "judgedSet", "(I)J"⟩, 98)]
theorem lw_r8 : ∀ q ∈ lw_privs_8, lw_okq q := List.forall_mem_cons.mpr ⟨lw_p112, List.forall_mem_cons.mpr ⟨lw_p113, List.forall_mem_cons.mpr ⟨lw_p114, List.forall_mem_cons.mpr ⟨lw_p115, List.forall_mem_cons.mpr ⟨lw_p116, List.forall_mem_cons.mpr ⟨lw_p117, List.forall_mem_cons.mpr ⟨lw_p118, List.forall_mem_cons.mpr ⟨lw_p119, List.forall_mem_cons.mpr ⟨lw_p120, List.forall_mem_cons.mpr ⟨lw_p121, List.forall_mem_cons.mpr ⟨lw_p122, List.forall_mem_cons.mpr ⟨lw_p123, List.forall_mem_cons.mpr ⟨lw_p124, List.forall_mem_cons.mpr ⟨lw_p125, List.forall_mem_cons.mpr ⟨lw_p126, List.forall_mem_cons.mpr ⟨lw_p127, fun _ h => absurd h List.not_mem_nil⟩⟩⟩⟩⟩⟩⟩⟩⟩⟩⟩⟩⟩⟩⟩⟩
theorem lw_p128 : lw_okq (⟨"HundredWordsModel", "putsAside", "()V"⟩, 98) := ⟨⟨by decide +kernel, by decide +kernel⟩, List.mem_of_getElem? (i := 1296) (by decide +kernel), List.mem_of_getElem? (i := 1960) (by decide +kernel), List.mem_of_getElem? (i := 1961) (by decide +kernel)⟩
theorem lw_p129 : lw_okq (⟨"HundredWordsModel", "apart", "()I"⟩, 98) := ⟨⟨by decide +kernel, by decide +kernel⟩, List.mem_of_getElem? (i := 1296) (by decide +kernel), List.mem_of_getElem? (i := 1964) (by decide +kernel), List.mem_of_getElem? (i := 1965) (by decide +kernel)⟩
theorem lw_p130 : lw_okq (⟨"HundredWordsModel", "changesOther", "()V"⟩, 98) := ⟨⟨by decide +kernel, by decide +kernel⟩, List.mem_of_getElem? (i := 1296) (by decide +kernel), List.mem_of_getElem? (i := 1968) (by decide +kernel), List.mem_of_getElem? (i := 1969) (by decide +kernel)⟩
theorem lw_p131 : lw_okq (⟨"HundredWordsModel", "triesCoded", "(II)Z"⟩, 98) := ⟨⟨by decide +kernel, by decide +kernel⟩, List.mem_of_getElem? (i := 1296) (by decide +kernel), List.mem_of_getElem? (i := 1975) (by decide +kernel), List.mem_of_getElem? (i := 1976) (by decide +kernel)⟩
theorem lw_p132 : lw_okq (⟨"HundredWordsModel", "isNearOther", "()Z"⟩, 98) := ⟨⟨by decide +kernel, by decide +kernel⟩, List.mem_of_getElem? (i := 1296) (by decide +kernel), List.mem_of_getElem? (i := 1979) (by decide +kernel), List.mem_of_getElem? (i := 1980) (by decide +kernel)⟩
theorem lw_p133 : lw_okq (⟨"HundredWordsModel", "isParty", "(I)Z"⟩, 98) := ⟨⟨by decide +kernel, by decide +kernel⟩, List.mem_of_getElem? (i := 1296) (by decide +kernel), List.mem_of_getElem? (i := 1998) (by decide +kernel), List.mem_of_getElem? (i := 1999) (by decide +kernel)⟩
theorem lw_p134 : lw_okq (⟨"HundredWordsModel", "worthOf", "(JI)I"⟩, 98) := ⟨⟨by decide +kernel, by decide +kernel⟩, List.mem_of_getElem? (i := 1296) (by decide +kernel), List.mem_of_getElem? (i := 2002) (by decide +kernel), List.mem_of_getElem? (i := 2003) (by decide +kernel)⟩
theorem lw_p135 : lw_okq (⟨"HundredWordsModel", "votesFor", "(JJ)I"⟩, 98) := ⟨⟨by decide +kernel, by decide +kernel⟩, List.mem_of_getElem? (i := 1296) (by decide +kernel), List.mem_of_getElem? (i := 2010) (by decide +kernel), List.mem_of_getElem? (i := 2011) (by decide +kernel)⟩
theorem lw_p136 : lw_okq (⟨"HundredWordsModel", "triesVoted", "()Z"⟩, 98) := ⟨⟨by decide +kernel, by decide +kernel⟩, List.mem_of_getElem? (i := 1296) (by decide +kernel), List.mem_of_getElem? (i := 2018) (by decide +kernel), List.mem_of_getElem? (i := 2019) (by decide +kernel)⟩
theorem lw_p137 : lw_okq (⟨"HundredWordsModel", "isVoted", "(J)Z"⟩, 98) := ⟨⟨by decide +kernel, by decide +kernel⟩, List.mem_of_getElem? (i := 1296) (by decide +kernel), List.mem_of_getElem? (i := 2022) (by decide +kernel), List.mem_of_getElem? (i := 2023) (by decide +kernel)⟩
theorem lw_p138 : lw_okq (⟨"HundredWordsModel", "qKind", "()I"⟩, 98) := ⟨⟨by decide +kernel, by decide +kernel⟩, List.mem_of_getElem? (i := 1296) (by decide +kernel), List.mem_of_getElem? (i := 2055) (by decide +kernel), List.mem_of_getElem? (i := 2056) (by decide +kernel)⟩
theorem lw_p139 : lw_okq (⟨"HundredWordsModel", "qTest", "()V"⟩, 98) := ⟨⟨by decide +kernel, by decide +kernel⟩, List.mem_of_getElem? (i := 1296) (by decide +kernel), List.mem_of_getElem? (i := 2059) (by decide +kernel), List.mem_of_getElem? (i := 2060) (by decide +kernel)⟩
theorem lw_p140 : lw_okq (⟨"HundredWordsModel", "qOpens", "(II)V"⟩, 98) := ⟨⟨by decide +kernel, by decide +kernel⟩, List.mem_of_getElem? (i := 1296) (by decide +kernel), List.mem_of_getElem? (i := 2063) (by decide +kernel), List.mem_of_getElem? (i := 2064) (by decide +kernel)⟩
theorem lw_p141 : lw_okq (⟨"HundredWordsModel", "qFact", "()V"⟩, 98) := ⟨⟨by decide +kernel, by decide +kernel⟩, List.mem_of_getElem? (i := 1296) (by decide +kernel), List.mem_of_getElem? (i := 2067) (by decide +kernel), List.mem_of_getElem? (i := 2068) (by decide +kernel)⟩
theorem lw_p142 : lw_okq (⟨"HundredWordsModel", "qCode", "(I)V"⟩, 98) := ⟨⟨by decide +kernel, by decide +kernel⟩, List.mem_of_getElem? (i := 1296) (by decide +kernel), List.mem_of_getElem? (i := 2071) (by decide +kernel), List.mem_of_getElem? (i := 2072) (by decide +kernel)⟩
theorem lw_p143 : lw_okq (⟨"HundredWordsModel", "qSums", "()V"⟩, 98) := ⟨⟨by decide +kernel, by decide +kernel⟩, List.mem_of_getElem? (i := 1296) (by decide +kernel), List.mem_of_getElem? (i := 2075) (by decide +kernel), List.mem_of_getElem? (i := 2076) (by decide +kernel)⟩
def lw_privs_9 : List (MethodName × Nat) := [(⟨"HundredWordsModel", "putsAside", "()V"⟩, 98), (⟨"HundredWordsModel", "apart", "()I"⟩, 98), (⟨"HundredWordsModel", "changesOther", "()V"⟩, 98), (⟨"HundredWordsModel", "triesCoded", "(II)Z"⟩, 98), (⟨"HundredWordsModel", "isNearOther", "()Z"⟩, 98), (⟨"HundredWordsModel", "isParty", "(I)Z"⟩, 98), (⟨"HundredWordsModel", "worthOf", "(JI)I"⟩, 98), (⟨"HundredWordsModel", "votesFor", "(JJ)I"⟩, 98), (⟨"HundredWordsModel", "triesVoted", "()Z"⟩, 98), (⟨"HundredWordsModel", "isVoted", "(J)Z"⟩, 98), (⟨"HundredWordsModel", "qKind", "()I"⟩, 98), (⟨"HundredWordsModel", "qTest", "()V"⟩, 98), (⟨"HundredWordsModel", "qOpens", "(II)V"⟩, 98), (⟨"HundredWordsModel", "qFact", "()V"⟩, 98), (⟨"HundredWordsModel", "qCode", "(I)V"⟩, 98), (⟨"HundredWordsModel", "qSums", "()V"⟩, 98)]
theorem lw_r9 : ∀ q ∈ lw_privs_9, lw_okq q := List.forall_mem_cons.mpr ⟨lw_p128, List.forall_mem_cons.mpr ⟨lw_p129, List.forall_mem_cons.mpr ⟨lw_p130, List.forall_mem_cons.mpr ⟨lw_p131, List.forall_mem_cons.mpr ⟨lw_p132, List.forall_mem_cons.mpr ⟨lw_p133, List.forall_mem_cons.mpr ⟨lw_p134, List.forall_mem_cons.mpr ⟨lw_p135, List.forall_mem_cons.mpr ⟨lw_p136, List.forall_mem_cons.mpr ⟨lw_p137, List.forall_mem_cons.mpr ⟨lw_p138, List.forall_mem_cons.mpr ⟨lw_p139, List.forall_mem_cons.mpr ⟨lw_p140, List.forall_mem_cons.mpr ⟨lw_p141, List.forall_mem_cons.mpr ⟨lw_p142, List.forall_mem_cons.mpr ⟨lw_p143, fun _ h => absurd h List.not_mem_nil⟩⟩⟩⟩⟩⟩⟩⟩⟩⟩⟩⟩⟩⟩⟩⟩
theorem lw_p144 : lw_okq (⟨"HundredWordsModel", "qPartTold", "()V"⟩, 98) := ⟨⟨by decide +kernel, by decide +kernel⟩, List.mem_of_getElem? (i := 1296) (by decide +kernel), List.mem_of_getElem? (i := 2079) (by decide +kernel), List.mem_of_getElem? (i := 2080) (by decide +kernel)⟩
theorem lw_p145 : lw_okq (⟨"HundredWordsModel", "qWordOf", "(II)I"⟩, 98) := ⟨⟨by decide +kernel, by decide +kernel⟩, List.mem_of_getElem? (i := 1296) (by decide +kernel), List.mem_of_getElem? (i := 2083) (by decide +kernel), List.mem_of_getElem? (i := 2084) (by decide +kernel)⟩
theorem lw_p146 : lw_okq (⟨"HundredWordsModel", "qWordHere", "()I"⟩, 98) := ⟨⟨by decide +kernel, by decide +kernel⟩, List.mem_of_getElem? (i := 1296) (by decide +kernel), List.mem_of_getElem? (i := 2087) (by decide +kernel), List.mem_of_getElem? (i := 2088) (by decide +kernel)⟩
theorem lw_p147 : lw_okq (⟨"HundredWordsModel", "qAsksWord", "(I)V"⟩, 98) := ⟨⟨by decide +kernel, by decide +kernel⟩, List.mem_of_getElem? (i := 1296) (by decide +kernel), List.mem_of_getElem? (i := 2091) (by decide +kernel), List.mem_of_getElem? (i := 2092) (by decide +kernel)⟩
theorem lw_p148 : lw_okq (⟨"HundredWordsModel", "qEndsPart", "()V"⟩, 98) := ⟨⟨by decide +kernel, by decide +kernel⟩, List.mem_of_getElem? (i := 1296) (by decide +kernel), List.mem_of_getElem? (i := 2095) (by decide +kernel), List.mem_of_getElem? (i := 2096) (by decide +kernel)⟩
theorem lw_p149 : lw_okq (⟨"HundredWordsModel", "qDrops", "()V"⟩, 98) := ⟨⟨by decide +kernel, by decide +kernel⟩, List.mem_of_getElem? (i := 1296) (by decide +kernel), List.mem_of_getElem? (i := 2099) (by decide +kernel), List.mem_of_getElem? (i := 2100) (by decide +kernel)⟩
theorem lw_p150 : lw_okq (⟨"HundredWordsModel", "qGoesOn", "()Z"⟩, 98) := ⟨⟨by decide +kernel, by decide +kernel⟩, List.mem_of_getElem? (i := 1296) (by decide +kernel), List.mem_of_getElem? (i := 2103) (by decide +kernel), List.mem_of_getElem? (i := 2104) (by decide +kernel)⟩
theorem lw_p151 : lw_okq (⟨"HundredWordsModel", "qBracket", "()I"⟩, 98) := ⟨⟨by decide +kernel, by decide +kernel⟩, List.mem_of_getElem? (i := 1296) (by decide +kernel), List.mem_of_getElem? (i := 2107) (by decide +kernel), List.mem_of_getElem? (i := 2108) (by decide +kernel)⟩
theorem lw_p152 : lw_okq (⟨"HundredWordsModel", "qDropsToBracket", "()V"⟩, 98) := ⟨⟨by decide +kernel, by decide +kernel⟩, List.mem_of_getElem? (i := 1296) (by decide +kernel), List.mem_of_getElem? (i := 2114) (by decide +kernel), List.mem_of_getElem? (i := 2115) (by decide +kernel)⟩
theorem lw_p153 : lw_okq (⟨"HundredWordsModel", "qIsOn", "(I)Z"⟩, 98) := ⟨⟨by decide +kernel, by decide +kernel⟩, List.mem_of_getElem? (i := 1296) (by decide +kernel), List.mem_of_getElem? (i := 2118) (by decide +kernel), List.mem_of_getElem? (i := 2119) (by decide +kernel)⟩
theorem lw_p154 : lw_okq (⟨"HundredWordsModel", "qDropsNots", "()V"⟩, 98) := ⟨⟨by decide +kernel, by decide +kernel⟩, List.mem_of_getElem? (i := 1296) (by decide +kernel), List.mem_of_getElem? (i := 2122) (by decide +kernel), List.mem_of_getElem? (i := 2123) (by decide +kernel)⟩
theorem lw_p155 : lw_okq (⟨"HundredWordsModel", "qGoesOnTest", "()Z"⟩, 98) := ⟨⟨by decide +kernel, by decide +kernel⟩, List.mem_of_getElem? (i := 1296) (by decide +kernel), List.mem_of_getElem? (i := 2126) (by decide +kernel), List.mem_of_getElem? (i := 2127) (by decide +kernel)⟩
theorem lw_p156 : lw_okq (⟨"HundredWordsModel", "qHasSquare", "()Z"⟩, 98) := ⟨⟨by decide +kernel, by decide +kernel⟩, List.mem_of_getElem? (i := 1296) (by decide +kernel), List.mem_of_getElem? (i := 2130) (by decide +kernel), List.mem_of_getElem? (i := 2131) (by decide +kernel)⟩
theorem lw_p157 : lw_okq (⟨"HundredWordsModel", "qTold", "(I)J"⟩, 98) := ⟨⟨by decide +kernel, by decide +kernel⟩, List.mem_of_getElem? (i := 1296) (by decide +kernel), List.mem_of_getElem? (i := 2135) (by decide +kernel), List.mem_of_getElem? (i := 2136) (by decide +kernel)⟩
theorem lw_p158 : lw_okq (⟨"HundredWordsModel", "qPuts", "(J)V"⟩, 98) := ⟨⟨by decide +kernel, by decide +kernel⟩, List.mem_of_getElem? (i := 1296) (by decide +kernel), List.mem_of_getElem? (i := 2139) (by decide +kernel), List.mem_of_getElem? (i := 2140) (by decide +kernel)⟩
theorem lw_p159 : lw_okq (⟨"HundredWordsModel", "qOf", "(IJI)J"⟩, 98) := ⟨⟨by decide +kernel, by decide +kernel⟩, List.mem_of_getElem? (i := 1296) (by decide +kernel), List.mem_of_getElem? (i := 2143) (by decide +kernel), List.mem_of_getElem? (i := 2144) (by decide +kernel)⟩
def lw_privs_10 : List (MethodName × Nat) := [(⟨"HundredWordsModel", "qPartTold", "()V"⟩, 98), (⟨"HundredWordsModel", "qWordOf", "(II)I"⟩, 98), (⟨"HundredWordsModel", "qWordHere", "()I"⟩, 98), (⟨"HundredWordsModel", "qAsksWord", "(I)V"⟩, 98), (⟨"HundredWordsModel", "qEndsPart", "()V"⟩, 98), (⟨"HundredWordsModel", "qDrops", "()V"⟩, 98), (⟨"HundredWordsModel", "qGoesOn", "()Z"⟩, 98), (⟨"HundredWordsModel", "qBracket", "()I"⟩, 98), (⟨"HundredWordsModel", "qDropsToBracket", "()V"⟩, 98), (⟨"HundredWordsModel", "qIsOn", "(I)Z"⟩, 98), (⟨"HundredWordsModel", "qDropsNots", "()V"⟩, 98), (⟨"HundredWordsModel", "qGoesOnTest", "()Z"⟩, 98), (⟨"HundredWordsModel", "qHasSquare", "()Z"⟩, 98), (⟨"HundredWordsModel", "qTold", "(I)J"⟩, 98), (⟨"HundredWordsModel", "qPuts", "(J)V"⟩, 98), (⟨"HundredWordsModel", "qOf", "(IJI)J"⟩, 98)]
theorem lw_r10 : ∀ q ∈ lw_privs_10, lw_okq q := List.forall_mem_cons.mpr ⟨lw_p144, List.forall_mem_cons.mpr ⟨lw_p145, List.forall_mem_cons.mpr ⟨lw_p146, List.forall_mem_cons.mpr ⟨lw_p147, List.forall_mem_cons.mpr ⟨lw_p148, List.forall_mem_cons.mpr ⟨lw_p149, List.forall_mem_cons.mpr ⟨lw_p150, List.forall_mem_cons.mpr ⟨lw_p151, List.forall_mem_cons.mpr ⟨lw_p152, List.forall_mem_cons.mpr ⟨lw_p153, List.forall_mem_cons.mpr ⟨lw_p154, List.forall_mem_cons.mpr ⟨lw_p155, List.forall_mem_cons.mpr ⟨lw_p156, List.forall_mem_cons.mpr ⟨lw_p157, List.forall_mem_cons.mpr ⟨lw_p158, List.forall_mem_cons.mpr ⟨lw_p159, fun _ h => absurd h List.not_mem_nil⟩⟩⟩⟩⟩⟩⟩⟩⟩⟩⟩⟩⟩⟩⟩⟩
theorem lw_p160 : lw_okq (⟨"HundredWordsModel", "qBorne", "(JI)J"⟩, 98) := ⟨⟨by decide +kernel, by decide +kernel⟩, List.mem_of_getElem? (i := 1296) (by decide +kernel), List.mem_of_getElem? (i := 2147) (by decide +kernel), List.mem_of_getElem? (i := 2148) (by decide +kernel)⟩
theorem lw_p161 : lw_okq (⟨"HundredWordsModel", "qPartOf", "(II)J"⟩, 98) := ⟨⟨by decide +kernel, by decide +kernel⟩, List.mem_of_getElem? (i := 1296) (by decide +kernel), List.mem_of_getElem? (i := 2156) (by decide +kernel), List.mem_of_getElem? (i := 2157) (by decide +kernel)⟩
theorem lw_p162 : lw_okq (⟨"HundredWordsModel", "qJoins", "(I)V"⟩, 98) := ⟨⟨by decide +kernel, by decide +kernel⟩, List.mem_of_getElem? (i := 1296) (by decide +kernel), List.mem_of_getElem? (i := 2160) (by decide +kernel), List.mem_of_getElem? (i := 2161) (by decide +kernel)⟩
theorem lw_p163 : lw_okq (⟨"HundredWordsModel", "qTakes", "(IJI)V"⟩, 98) := ⟨⟨by decide +kernel, by decide +kernel⟩, List.mem_of_getElem? (i := 1296) (by decide +kernel), List.mem_of_getElem? (i := 2167) (by decide +kernel), List.mem_of_getElem? (i := 2168) (by decide +kernel)⟩
theorem lw_p164 : lw_okq (⟨"HundredWordsModel", "isTold", "(II)Z"⟩, 98) := ⟨⟨by decide +kernel, by decide +kernel⟩, List.mem_of_getElem? (i := 1296) (by decide +kernel), List.mem_of_getElem? (i := 2186) (by decide +kernel), List.mem_of_getElem? (i := 2187) (by decide +kernel)⟩
def lw_privs_11 : List (MethodName × Nat) := [(⟨"HundredWordsModel", "qBorne", "(JI)J"⟩, 98), (⟨"HundredWordsModel", "qPartOf", "(II)J"⟩, 98), (⟨"HundredWordsModel", "qJoins", "(I)V"⟩, 98), (⟨"HundredWordsModel", "qTakes", "(IJI)V"⟩, 98), (⟨"HundredWordsModel", "isTold", "(II)Z"⟩, 98)]
theorem lw_r11 : ∀ q ∈ lw_privs_11, lw_okq q := List.forall_mem_cons.mpr ⟨lw_p160, List.forall_mem_cons.mpr ⟨lw_p161, List.forall_mem_cons.mpr ⟨lw_p162, List.forall_mem_cons.mpr ⟨lw_p163, List.forall_mem_cons.mpr ⟨lw_p164, fun _ h => absurd h List.not_mem_nil⟩⟩⟩⟩⟩
def lw_privs : List (MethodName × Nat) := lw_privs_1 ++ (lw_privs_2 ++ (lw_privs_3 ++ (lw_privs_4 ++ (lw_privs_5 ++ (lw_privs_6 ++ (lw_privs_7 ++ (lw_privs_8 ++ (lw_privs_9 ++ (lw_privs_10 ++ (lw_privs_11))))))))))
def lw_tbl : List Cond := k2_sels lw_privs ++ tables_1
theorem lw_privs_ok : ∀ q ∈ lw_privs, lw_okq q := by
  show ∀ q ∈ lw_privs_1 ++ (lw_privs_2 ++ (lw_privs_3 ++ (lw_privs_4 ++ (lw_privs_5 ++ (lw_privs_6 ++ (lw_privs_7 ++ (lw_privs_8 ++ (lw_privs_9 ++ (lw_privs_10 ++ (lw_privs_11)))))))))), lw_okq q
  exact List.forall_mem_append.mpr ⟨lw_r1, List.forall_mem_append.mpr ⟨lw_r2, List.forall_mem_append.mpr ⟨lw_r3, List.forall_mem_append.mpr ⟨lw_r4, List.forall_mem_append.mpr ⟨lw_r5, List.forall_mem_append.mpr ⟨lw_r6, List.forall_mem_append.mpr ⟨lw_r7, List.forall_mem_append.mpr ⟨lw_r8, List.forall_mem_append.mpr ⟨lw_r9, List.forall_mem_append.mpr ⟨lw_r10, lw_r11⟩⟩⟩⟩⟩⟩⟩⟩⟩⟩
/-! THE WORDS BY THEIR PLACES. -/
def j_ch : Nat → List Cond := fun c => match c with
  | 0 => k2_sels lw_privs
  | 1 => tables_1_1
  | 2 => tables_1_2
  | 3 => tables_1_3
  | 4 => tables_1_4
  | 5 => tables_1_5
  | 6 => tables_1_6
  | 7 => tables_1_7
  | 8 => tables_1_8
  | 9 => tables_1_9
  | 10 => tables_1_10
  | _ => []
noncomputable def j_wd (c o : Nat) : Option Cond := j_nth (j_ch c) o
def j_TW : List Cond := lw_tbl.filter goodWord
theorem j_ch_in : ∀ (c : Nat) (x : Cond), x ∈ j_ch c → x ∈ lw_tbl := by
  intro c x h
  unfold lw_tbl tables_1
  match c, h with
  | 0, h => exact List.mem_append_left _ h
  | 1, h => exact List.mem_append_right _ (List.mem_append_left _ h)
  | 2, h => exact List.mem_append_right _ (List.mem_append_right _ (List.mem_append_left _ h))
  | 3, h => exact List.mem_append_right _ (List.mem_append_right _ (List.mem_append_right _ (List.mem_append_left _ h)))
  | 4, h => exact List.mem_append_right _ (List.mem_append_right _ (List.mem_append_right _ (List.mem_append_right _ (List.mem_append_left _ h))))
  | 5, h => exact List.mem_append_right _ (List.mem_append_right _ (List.mem_append_right _ (List.mem_append_right _ (List.mem_append_right _ (List.mem_append_left _ h)))))
  | 6, h => exact List.mem_append_right _ (List.mem_append_right _ (List.mem_append_right _ (List.mem_append_right _ (List.mem_append_right _ (List.mem_append_right _ (List.mem_append_left _ h))))))
  | 7, h => exact List.mem_append_right _ (List.mem_append_right _ (List.mem_append_right _ (List.mem_append_right _ (List.mem_append_right _ (List.mem_append_right _ (List.mem_append_right _ (List.mem_append_left _ h)))))))
  | 8, h => exact List.mem_append_right _ (List.mem_append_right _ (List.mem_append_right _ (List.mem_append_right _ (List.mem_append_right _ (List.mem_append_right _ (List.mem_append_right _ (List.mem_append_right _ (List.mem_append_left _ h))))))))
  | 9, h => exact List.mem_append_right _ (List.mem_append_right _ (List.mem_append_right _ (List.mem_append_right _ (List.mem_append_right _ (List.mem_append_right _ (List.mem_append_right _ (List.mem_append_right _ (List.mem_append_right _ (List.mem_append_left _ h)))))))))
  | 10, h => exact List.mem_append_right _ (List.mem_append_right _ (List.mem_append_right _ (List.mem_append_right _ (List.mem_append_right _ (List.mem_append_right _ (List.mem_append_right _ (List.mem_append_right _ (List.mem_append_right _ (List.mem_append_right _ (h))))))))))
  | _ + 11, h => exact absurd h List.not_mem_nil
theorem j_wd_in {c o : Nat} {x : Cond} (h : j_wd c o = some x) (hg : goodWord x = true) : x ∈ j_TW := by
  unfold j_wd at h
  rw [j_nth_eq] at h
  exact List.mem_filter.mpr ⟨j_ch_in c x (List.mem_of_getElem? h), hg⟩
noncomputable def j_has (c o : Nat) (x : Cond) : Bool := match j_wd c o with | some z => decide (z = x) && goodWord z | none => false
theorem j_has_in {c o : Nat} {x : Cond} (h : j_has c o x = true) : x ∈ j_TW := by
  unfold j_has at h
  split at h
  · rename_i z hz
    rw [Bool.and_eq_true] at h
    have e := of_decide_eq_true h.1
    subst e
    exact j_wd_in hz h.2
  · cases h
theorem j_TW_good : ∀ x ∈ j_TW, (x.onTables && x.keeps) = true ∨ ∃ ty, x = .arrayClass ty := fun x hx => good_of_word (List.mem_filter.mp hx).2
theorem j_TW_tbl : ∀ x ∈ j_TW, x ∈ lw_tbl := fun x hx => (List.mem_filter.mp hx).1
end
section
def RX0 : String := "HundredWords$Acts"
def TX0 : u_T := fun k => match k with
  | 0 => ("HundredWords$Acts", "signs", "[I", true)
  | 1 => ("HundredWords$Acts", "sizes", "[I", true)
  | 2 => ("HundredWords$Acts", "newest", "I", false)
  | _ => ("HundredWords$Acts", "count", "I", false)
def tyX0 : Nat → FieldType := fun k => match k with
  | 0 => .array .int
  | 1 => .array .int
  | 2 => .int
  | _ => .int
theorem nmX0 : ∀ a, a < 4 → ∀ b, b < 4 → a ≠ b → (TX0 a).2.1 ≠ (TX0 b).2.1 := by decide +kernel
theorem tyX0_ok : ∀ k, k < 4 → parseFieldDescriptor (TX0 k).2.2.1 = some (tyX0 k) := by decide +kernel
def RX1 : String := "HundredWords$Image"
def TX1 : u_T := fun k => match k with
  | 0 => ("HundredWords$Image", "octets", "[I", true)
  | _ => ("HundredWords$Image", "length", "I", false)
def tyX1 : Nat → FieldType := fun k => match k with
  | 0 => .array .int
  | _ => .int
theorem nmX1 : ∀ a, a < 2 → ∀ b, b < 2 → a ≠ b → (TX1 a).2.1 ≠ (TX1 b).2.1 := by decide +kernel
theorem tyX1_ok : ∀ k, k < 2 → parseFieldDescriptor (TX1 k).2.2.1 = some (tyX1 k) := by decide +kernel
def RX2 : String := "HundredWords$LawReader"
def TX2 : u_T := fun k => match k with
  | 0 => ("HundredWords$LawReader", "tape", "LHundredWords$Tape;", true)
  | _ => ("HundredWords$LawReader", "ownWords", "[I", true)
def tyX2 : Nat → FieldType := fun k => match k with
  | 0 => .object "HundredWords$Tape"
  | _ => .array .int
theorem nmX2 : ∀ a, a < 2 → ∀ b, b < 2 → a ≠ b → (TX2 a).2.1 ≠ (TX2 b).2.1 := by decide +kernel
theorem tyX2_ok : ∀ k, k < 2 → parseFieldDescriptor (TX2 k).2.2.1 = some (tyX2 k) := by decide +kernel
def RX3 : String := "HundredWords$Question"
def TX3 : u_T := fun k => match k with
  | 0 => ("HundredWords$Question", "tape", "LHundredWords$Tape;", true)
  | 1 => ("HundredWords$Question", "words", "[I", true)
  | 2 => ("HundredWords$Question", "steps", "[I", true)
  | 3 => ("HundredWords$Question", "stack", "[J", true)
  | 4 => ("HundredWords$Question", "length", "I", false)
  | 5 => ("HundredWords$Question", "open", "I", false)
  | 6 => ("HundredWords$Question", "kind", "I", false)
  | 7 => ("HundredWords$Question", "top", "I", false)
  | 8 => ("HundredWords$Question", "tongue", "LHundredWords$Tongue;", false)
  | 9 => ("HundredWords$Question", "law", "LHundredWords$Row;", false)
  | _ => ("HundredWords$Question", "other", "LHundredWords$Row;", false)
def tyX3 : Nat → FieldType := fun k => match k with
  | 0 => .object "HundredWords$Tape"
  | 1 => .array .int
  | 2 => .array .int
  | 3 => .array .long
  | 4 => .int
  | 5 => .int
  | 6 => .int
  | 7 => .int
  | 8 => .object "HundredWords$Tongue"
  | 9 => .object "HundredWords$Row"
  | _ => .object "HundredWords$Row"
theorem nmX3 : ∀ a, a < 11 → ∀ b, b < 11 → a ≠ b → (TX3 a).2.1 ≠ (TX3 b).2.1 := by decide +kernel
theorem tyX3_ok : ∀ k, k < 11 → parseFieldDescriptor (TX3 k).2.2.1 = some (tyX3 k) := by decide +kernel
def RX4 : String := "HundredWords$Row"
def TX4 : u_T := fun k => match k with
  | 0 => ("HundredWords$Row", "sign", "[I", true)
  | 1 => ("HundredWords$Row", "size", "I", false)
  | 2 => ("HundredWords$Row", "words", "I", false)
  | 3 => ("HundredWords$Row", "before", "[I", true)
  | 4 => ("HundredWords$Row", "openings", "[I", true)
  | 5 => ("HundredWords$Row", "borneBy", "[J", true)
  | 6 => ("HundredWords$Row", "sentences", "I", false)
  | 7 => ("HundredWords$Row", "forbidden", "J", false)
  | _ => ("HundredWords$Row", "at", "I", false)
def tyX4 : Nat → FieldType := fun k => match k with
  | 0 => .array .int
  | 1 => .int
  | 2 => .int
  | 3 => .array .int
  | 4 => .array .int
  | 5 => .array .long
  | 6 => .int
  | 7 => .long
  | _ => .int
theorem nmX4 : ∀ a, a < 9 → ∀ b, b < 9 → a ≠ b → (TX4 a).2.1 ≠ (TX4 b).2.1 := by decide +kernel
theorem tyX4_ok : ∀ k, k < 9 → parseFieldDescriptor (TX4 k).2.2.1 = some (tyX4 k) := by decide +kernel
def RX5 : String := "HundredWords$Shorts"
def TX5 : u_T := fun k => match k with
  | 0 => ("HundredWords$Shorts", "literals", "[J", true)
  | 1 => ("HundredWords$Shorts", "forbidden", "[J", true)
  | 2 => ("HundredWords$Shorts", "chosen", "[I", true)
  | 3 => ("HundredWords$Shorts", "slots", "[I", true)
  | 4 => ("HundredWords$Shorts", "within", "[I", true)
  | 5 => ("HundredWords$Shorts", "goals", "[J", true)
  | 6 => ("HundredWords$Shorts", "sought", "[Z", true)
  | 7 => ("HundredWords$Shorts", "found", "[I", true)
  | 8 => ("HundredWords$Shorts", "literalCount", "I", false)
  | 9 => ("HundredWords$Shorts", "count", "I", false)
  | 10 => ("HundredWords$Shorts", "chosenCount", "I", false)
  | 11 => ("HundredWords$Shorts", "fitCount", "I", false)
  | 12 => ("HundredWords$Shorts", "fitAll", "J", false)
  | 13 => ("HundredWords$Shorts", "fitSome", "J", false)
  | _ => ("HundredWords$Shorts", "ready", "Z", false)
def tyX5 : Nat → FieldType := fun k => match k with
  | 0 => .array .long
  | 1 => .array .long
  | 2 => .array .int
  | 3 => .array .int
  | 4 => .array .int
  | 5 => .array .long
  | 6 => .array .boolean
  | 7 => .array .int
  | 8 => .int
  | 9 => .int
  | 10 => .int
  | 11 => .int
  | 12 => .long
  | 13 => .long
  | _ => .boolean
theorem nmX5 : ∀ a, a < 15 → ∀ b, b < 15 → a ≠ b → (TX5 a).2.1 ≠ (TX5 b).2.1 := by decide +kernel
theorem tyX5_ok : ∀ k, k < 15 → parseFieldDescriptor (TX5 k).2.2.1 = some (tyX5 k) := by decide +kernel
def RX6 : String := "HundredWords$Tape"
def TX6 : u_T := fun k => match k with
  | 0 => ("HundredWords$Tape", "octets", "[I", true)
  | 1 => ("HundredWords$Tape", "length", "I", false)
  | 2 => ("HundredWords$Tape", "at", "I", false)
  | 3 => ("HundredWords$Tape", "fault", "I", false)
  | 4 => ("HundredWords$Tape", "place", "I", false)
  | 5 => ("HundredWords$Tape", "start", "I", false)
  | 6 => ("HundredWords$Tape", "span", "I", false)
  | 7 => ("HundredWords$Tape", "code", "I", false)
  | _ => ("HundredWords$Tape", "value", "I", false)
def tyX6 : Nat → FieldType := fun k => match k with
  | 0 => .array .int
  | 1 => .int
  | 2 => .int
  | 3 => .int
  | 4 => .int
  | 5 => .int
  | 6 => .int
  | 7 => .int
  | _ => .int
theorem nmX6 : ∀ a, a < 9 → ∀ b, b < 9 → a ≠ b → (TX6 a).2.1 ≠ (TX6 b).2.1 := by decide +kernel
theorem tyX6_ok : ∀ k, k < 9 → parseFieldDescriptor (TX6 k).2.2.1 = some (tyX6 k) := by decide +kernel
def RX7 : String := "HundredWords$Told"
def TX7 : u_T := fun k => match k with
  | 0 => ("HundredWords$Told", "forbid", "[Z", true)
  | 1 => ("HundredWords$Told", "ones", "[I", true)
  | 2 => ("HundredWords$Told", "party", "[I", true)
  | 3 => ("HundredWords$Told", "worthOfCase", "[I", true)
  | 4 => ("HundredWords$Told", "cases", "[J", true)
  | 5 => ("HundredWords$Told", "size", "I", false)
  | 6 => ("HundredWords$Told", "allForbidden", "J", false)
  | _ => ("HundredWords$Told", "allFree", "J", false)
def tyX7 : Nat → FieldType := fun k => match k with
  | 0 => .array .boolean
  | 1 => .array .int
  | 2 => .array .int
  | 3 => .array .int
  | 4 => .array .long
  | 5 => .int
  | 6 => .long
  | _ => .long
theorem nmX7 : ∀ a, a < 8 → ∀ b, b < 8 → a ≠ b → (TX7 a).2.1 ≠ (TX7 b).2.1 := by decide +kernel
theorem tyX7_ok : ∀ k, k < 8 → parseFieldDescriptor (TX7 k).2.2.1 = some (tyX7 k) := by decide +kernel
def RX8 : String := "HundredWords$Tongue"
def TX8 : u_T := fun k => match k with
  | 0 => ("HundredWords$Tongue", "codes", "[I", true)
  | 1 => ("HundredWords$Tongue", "wordsOf", "[I", true)
  | 2 => ("HundredWords$Tongue", "meant", "[I", true)
  | 3 => ("HundredWords$Tongue", "votesOf", "[I", true)
  | 4 => ("HundredWords$Tongue", "gain", "[I", true)
  | 5 => ("HundredWords$Tongue", "holds", "[J", true)
  | 6 => ("HundredWords$Tongue", "wishes", "LHundredWords$Told;", true)
  | 7 => ("HundredWords$Tongue", "peace", "LHundredWords$Told;", true)
  | 8 => ("HundredWords$Tongue", "judgments", "LHundredWords$Told;", true)
  | 9 => ("HundredWords$Tongue", "likes", "I", false)
  | 10 => ("HundredWords$Tongue", "limit", "I", false)
  | 11 => ("HundredWords$Tongue", "parties", "I", false)
  | 12 => ("HundredWords$Tongue", "cases", "I", false)
  | _ => ("HundredWords$Tongue", "all", "J", false)
def tyX8 : Nat → FieldType := fun k => match k with
  | 0 => .array .int
  | 1 => .array .int
  | 2 => .array .int
  | 3 => .array .int
  | 4 => .array .int
  | 5 => .array .long
  | 6 => .object "HundredWords$Told"
  | 7 => .object "HundredWords$Told"
  | 8 => .object "HundredWords$Told"
  | 9 => .int
  | 10 => .int
  | 11 => .int
  | 12 => .int
  | _ => .long
theorem nmX8 : ∀ a, a < 14 → ∀ b, b < 14 → a ≠ b → (TX8 a).2.1 ≠ (TX8 b).2.1 := by decide +kernel
theorem tyX8_ok : ∀ k, k < 14 → parseFieldDescriptor (TX8 k).2.2.1 = some (tyX8 k) := by decide +kernel
def RX9 : String := "HundredWords$TongueReader"
def TX9 : u_T := fun k => match k with
  | 0 => ("HundredWords$TongueReader", "tape", "LHundredWords$Tape;", true)
  | _ => ("HundredWords$TongueReader", "ownWords", "[I", true)
def tyX9 : Nat → FieldType := fun k => match k with
  | 0 => .object "HundredWords$Tape"
  | _ => .array .int
theorem nmX9 : ∀ a, a < 2 → ∀ b, b < 2 → a ≠ b → (TX9 a).2.1 ≠ (TX9 b).2.1 := by decide +kernel
theorem tyX9_ok : ∀ k, k < 2 → parseFieldDescriptor (TX9 k).2.2.1 = some (tyX9 k) := by decide +kernel
def RX10 : String := "HundredWords$Way"
def TX10 : u_T := fun k => match k with
  | _ => ("HundredWords$Way", "stages", "[LHundredWords$Row;", true)
def tyX10 : Nat → FieldType := fun k => match k with
  | _ => .array (.object "HundredWords$Row")
theorem nmX10 : ∀ a, a < 1 → ∀ b, b < 1 → a ≠ b → (TX10 a).2.1 ≠ (TX10 b).2.1 := by decide +kernel
theorem tyX10_ok : ∀ k, k < 1 → parseFieldDescriptor (TX10 k).2.2.1 = some (tyX10 k) := by decide +kernel
def RX11 : String := "HundredWords"
def TX11 : u_T := fun k => match k with
  | 0 => ("HundredWords", "tape", "LHundredWords$Tape;", true)
  | 1 => ("HundredWords", "tongueReader", "LHundredWords$TongueReader;", true)
  | 2 => ("HundredWords", "lawReader", "LHundredWords$LawReader;", true)
  | 3 => ("HundredWords", "question", "LHundredWords$Question;", true)
  | 4 => ("HundredWords", "spoken", "LHundredWords$Tongue;", false)
  | 5 => ("HundredWords", "draft", "LHundredWords$Tongue;", false)
  | 6 => ("HundredWords", "theLaw", "LHundredWords$Row;", true)
  | 7 => ("HundredWords", "otherLaw", "LHundredWords$Row;", true)
  | 8 => ("HundredWords", "trial", "LHundredWords$Row;", true)
  | 9 => ("HundredWords", "twin", "LHundredWords$Row;", true)
  | 10 => ("HundredWords", "acts", "LHundredWords$Acts;", true)
  | 11 => ("HundredWords", "shortOnes", "LHundredWords$Shorts;", true)
  | 12 => ("HundredWords", "paths", "LHundredWords$Way;", true)
  | 13 => ("HundredWords", "picture", "LHundredWords$Image;", true)
  | 14 => ("HundredWords", "refused", "[I", true)
  | _ => ("HundredWords", "lot", "J", false)
def tyX11 : Nat → FieldType := fun k => match k with
  | 0 => .object "HundredWords$Tape"
  | 1 => .object "HundredWords$TongueReader"
  | 2 => .object "HundredWords$LawReader"
  | 3 => .object "HundredWords$Question"
  | 4 => .object "HundredWords$Tongue"
  | 5 => .object "HundredWords$Tongue"
  | 6 => .object "HundredWords$Row"
  | 7 => .object "HundredWords$Row"
  | 8 => .object "HundredWords$Row"
  | 9 => .object "HundredWords$Row"
  | 10 => .object "HundredWords$Acts"
  | 11 => .object "HundredWords$Shorts"
  | 12 => .object "HundredWords$Way"
  | 13 => .object "HundredWords$Image"
  | 14 => .array .int
  | _ => .long
theorem nmX11 : ∀ a, a < 16 → ∀ b, b < 16 → a ≠ b → (TX11 a).2.1 ≠ (TX11 b).2.1 := by decide +kernel
theorem tyX11_ok : ∀ k, k < 16 → parseFieldDescriptor (TX11 k).2.2.1 = some (tyX11 k) := by decide +kernel
def RX12 : String := "HundredWordsModel"
def TX12 : u_T := fun k => match k with
  | 0 => ("HundredWordsModel", "tape", "[I", true)
  | 1 => ("HundredWordsModel", "taped", "I", false)
  | 2 => ("HundredWordsModel", "at", "I", false)
  | 3 => ("HundredWordsModel", "end", "I", false)
  | 4 => ("HundredWordsModel", "ended", "I", false)
  | 5 => ("HundredWordsModel", "bad", "I", false)
  | 6 => ("HundredWordsModel", "badPlace", "I", false)
  | 7 => ("HundredWordsModel", "fault", "I", false)
  | 8 => ("HundredWordsModel", "faultPlace", "I", false)
  | 9 => ("HundredWordsModel", "refused", "[I", true)
  | 10 => ("HundredWordsModel", "whoWord", "[C", true)
  | 11 => ("HundredWordsModel", "whatWord", "[C", true)
  | 12 => ("HundredWordsModel", "whenWord", "[C", true)
  | 13 => ("HundredWordsModel", "likeWord", "[C", true)
  | 14 => ("HundredWordsModel", "limitWord", "[C", true)
  | 15 => ("HundredWordsModel", "partyWord", "[C", true)
  | 16 => ("HundredWordsModel", "votesWord", "[C", true)
  | 17 => ("HundredWordsModel", "wishWord", "[C", true)
  | 18 => ("HundredWordsModel", "peaceWord", "[C", true)
  | 19 => ("HundredWordsModel", "judgedWord", "[C", true)
  | 20 => ("HundredWordsModel", "forbidWord", "[C", true)
  | 21 => ("HundredWordsModel", "freeWord", "[C", true)
  | 22 => ("HundredWordsModel", "anyWord", "[C", true)
  | 23 => ("HundredWordsModel", "worthWord", "[C", true)
  | 24 => ("HundredWordsModel", "andWord", "[C", true)
  | 25 => ("HundredWordsModel", "orWord", "[C", true)
  | 26 => ("HundredWordsModel", "notWord", "[C", true)
  | 27 => ("HundredWordsModel", "unlessWord", "[C", true)
  | 28 => ("HundredWordsModel", "wordPlace", "I", false)
  | 29 => ("HundredWordsModel", "words", "[J", true)
  | 30 => ("HundredWordsModel", "meanings", "[I", true)
  | 31 => ("HundredWordsModel", "parties", "[J", true)
  | 32 => ("HundredWordsModel", "votesOf", "[I", true)
  | 33 => ("HundredWordsModel", "partyMany", "I", false)
  | 34 => ("HundredWordsModel", "partiesNow", "I", false)
  | 35 => ("HundredWordsModel", "ruled", "[I", true)
  | 36 => ("HundredWordsModel", "ruledMany", "[I", true)
  | 37 => ("HundredWordsModel", "limitTold", "I", false)
  | 38 => ("HundredWordsModel", "limit", "I", false)
  | 39 => ("HundredWordsModel", "statements", "I", false)
  | 40 => ("HundredWordsModel", "holds", "[J", true)
  | 41 => ("HundredWordsModel", "ruledSet", "[J", true)
  | 42 => ("HundredWordsModel", "everything", "J", false)
  | 43 => ("HundredWordsModel", "readRow", "[I", true)
  | 44 => ("HundredWordsModel", "readMany", "I", false)
  | 45 => ("HundredWordsModel", "readWords", "I", false)
  | 46 => ("HundredWordsModel", "laws", "[I", true)
  | 47 => ("HundredWordsModel", "lawMany", "[I", true)
  | 48 => ("HundredWordsModel", "tried", "[I", true)
  | 49 => ("HundredWordsModel", "triedMany", "I", false)
  | 50 => ("HundredWordsModel", "kept", "[I", true)
  | 51 => ("HundredWordsModel", "keptMany", "[I", true)
  | 52 => ("HundredWordsModel", "undoable", "I", false)
  | 53 => ("HundredWordsModel", "newest", "I", false)
  | 54 => ("HundredWordsModel", "shortSet", "[J", true)
  | 55 => ("HundredWordsModel", "shortWords", "[I", true)
  | 56 => ("HundredWordsModel", "shortMany", "I", false)
  | 57 => ("HundredWordsModel", "literal", "[I", true)
  | 58 => ("HundredWordsModel", "literals", "I", false)
  | 59 => ("HundredWordsModel", "fewestWords", "I", false)
  | 60 => ("HundredWordsModel", "fewestFirst", "I", false)
  | 61 => ("HundredWordsModel", "fewestSecond", "I", false)
  | 62 => ("HundredWordsModel", "changesOfOther", "[I", true)
  | 63 => ("HundredWordsModel", "changesMany", "I", false)
  | 64 => ("HundredWordsModel", "aside", "[I", true)
  | 65 => ("HundredWordsModel", "asideMany", "I", false)
  | 66 => ("HundredWordsModel", "seeded", "J", false)
  | 67 => ("HundredWordsModel", "firstAsked", "[C", true)
  | 68 => ("HundredWordsModel", "lastAsked", "[C", true)
  | 69 => ("HundredWordsModel", "oftenAsked", "[C", true)
  | 70 => ("HundredWordsModel", "totalAsked", "[C", true)
  | 71 => ("HundredWordsModel", "mostAsked", "[C", true)
  | 72 => ("HundredWordsModel", "leastAsked", "[C", true)
  | 73 => ("HundredWordsModel", "notAsked", "[C", true)
  | 74 => ("HundredWordsModel", "andAsked", "[C", true)
  | 75 => ("HundredWordsModel", "orAsked", "[C", true)
  | 76 => ("HundredWordsModel", "allAsked", "[C", true)
  | 77 => ("HundredWordsModel", "minAsked", "[C", true)
  | 78 => ("HundredWordsModel", "maxAsked", "[C", true)
  | 79 => ("HundredWordsModel", "caseAsked", "[C", true)
  | 80 => ("HundredWordsModel", "whoAsked", "[C", true)
  | 81 => ("HundredWordsModel", "whatAsked", "[C", true)
  | 82 => ("HundredWordsModel", "whenAsked", "[C", true)
  | 83 => ("HundredWordsModel", "lawAsked", "[C", true)
  | 84 => ("HundredWordsModel", "otherAsked", "[C", true)
  | 85 => ("HundredWordsModel", "borneAsked", "[C", true)
  | 86 => ("HundredWordsModel", "qCodes", "[I", true)
  | 87 => ("HundredWordsModel", "qCoded", "I", false)
  | 88 => ("HundredWordsModel", "qWait", "[I", true)
  | 89 => ("HundredWordsModel", "qWaits", "I", false)
  | 90 => ("HundredWordsModel", "qOpened", "I", false)
  | 91 => ("HundredWordsModel", "qBase", "I", false)
  | 92 => ("HundredWordsModel", "qPile", "[J", true)
  | 93 => ("HundredWordsModel", "qPiled", "I", false)
  | 94 => ("HundredWordsModel", "qAnswer", "J", false)
  | 95 => ("HundredWordsModel", "qIsNew", "Z", false)
  | 96 => ("HundredWordsModel", "octet", "[I", true)
  | _ => ("HundredWordsModel", "octets", "I", false)
def tyX12 : Nat → FieldType := fun k => match k with
  | 0 => .array .int
  | 1 => .int
  | 2 => .int
  | 3 => .int
  | 4 => .int
  | 5 => .int
  | 6 => .int
  | 7 => .int
  | 8 => .int
  | 9 => .array .int
  | 10 => .array .char
  | 11 => .array .char
  | 12 => .array .char
  | 13 => .array .char
  | 14 => .array .char
  | 15 => .array .char
  | 16 => .array .char
  | 17 => .array .char
  | 18 => .array .char
  | 19 => .array .char
  | 20 => .array .char
  | 21 => .array .char
  | 22 => .array .char
  | 23 => .array .char
  | 24 => .array .char
  | 25 => .array .char
  | 26 => .array .char
  | 27 => .array .char
  | 28 => .int
  | 29 => .array .long
  | 30 => .array .int
  | 31 => .array .long
  | 32 => .array .int
  | 33 => .int
  | 34 => .int
  | 35 => .array .int
  | 36 => .array .int
  | 37 => .int
  | 38 => .int
  | 39 => .int
  | 40 => .array .long
  | 41 => .array .long
  | 42 => .long
  | 43 => .array .int
  | 44 => .int
  | 45 => .int
  | 46 => .array .int
  | 47 => .array .int
  | 48 => .array .int
  | 49 => .int
  | 50 => .array .int
  | 51 => .array .int
  | 52 => .int
  | 53 => .int
  | 54 => .array .long
  | 55 => .array .int
  | 56 => .int
  | 57 => .array .int
  | 58 => .int
  | 59 => .int
  | 60 => .int
  | 61 => .int
  | 62 => .array .int
  | 63 => .int
  | 64 => .array .int
  | 65 => .int
  | 66 => .long
  | 67 => .array .char
  | 68 => .array .char
  | 69 => .array .char
  | 70 => .array .char
  | 71 => .array .char
  | 72 => .array .char
  | 73 => .array .char
  | 74 => .array .char
  | 75 => .array .char
  | 76 => .array .char
  | 77 => .array .char
  | 78 => .array .char
  | 79 => .array .char
  | 80 => .array .char
  | 81 => .array .char
  | 82 => .array .char
  | 83 => .array .char
  | 84 => .array .char
  | 85 => .array .char
  | 86 => .array .int
  | 87 => .int
  | 88 => .array .int
  | 89 => .int
  | 90 => .int
  | 91 => .int
  | 92 => .array .long
  | 93 => .int
  | 94 => .long
  | 95 => .boolean
  | 96 => .array .int
  | _ => .int
theorem nmX12 : ∀ a, a < 98 → ∀ b, b < 98 → a ≠ b → (TX12 a).2.1 ≠ (TX12 b).2.1 := by decide +kernel
theorem tyX12_ok : ∀ k, k < 98 → parseFieldDescriptor (TX12 k).2.2.1 = some (tyX12 k) := by decide +kernel
abbrev vwCl : List vw_C := [(RX0, TX0, 4), (RX1, TX1, 2), (RX2, TX2, 2), (RX3, TX3, 11), (RX4, TX4, 9), (RX5, TX5, 15), (RX6, TX6, 9), (RX7, TX7, 8), (RX8, TX8, 14), (RX9, TX9, 2), (RX10, TX10, 1), (RX11, TX11, 16), (RX12, TX12, 98)]
def j_df : Nat → List Value := fun c => match c with
  | 0 => [.null, .null, .int 0, .int 0]
  | 1 => [.null, .int 0]
  | 2 => [.null, .null]
  | 3 => [.null, .null, .null, .null, .int 0, .int 0, .int 0, .int 0, .null, .null, .null]
  | 4 => [.null, .int 0, .int 0, .null, .null, .null, .int 0, .long 0, .int 0]
  | 5 => [.null, .null, .null, .null, .null, .null, .null, .null, .int 0, .int 0, .int 0, .int 0, .long 0, .long 0, .int 0]
  | 6 => [.null, .int 0, .int 0, .int 0, .int 0, .int 0, .int 0, .int 0, .int 0]
  | 7 => [.null, .null, .null, .null, .null, .int 0, .long 0, .long 0]
  | 8 => [.null, .null, .null, .null, .null, .null, .null, .null, .null, .int 0, .int 0, .int 0, .int 0, .long 0]
  | 9 => [.null, .null]
  | 10 => [.null]
  | 11 => [.null, .null, .null, .null, .null, .null, .null, .null, .null, .null, .null, .null, .null, .null, .null, .long 0]
  | 12 => [.null, .int 0, .int 0, .int 0, .int 0, .int 0, .int 0, .int 0, .int 0, .null, .null, .null, .null, .null, .null, .null, .null, .null, .null, .null, .null, .null, .null, .null, .null, .null, .null, .null, .int 0, .null, .null, .null, .null, .int 0, .int 0, .null, .null, .int 0, .int 0, .int 0, .null, .null, .long 0, .null, .int 0, .int 0, .null, .null, .null, .int 0, .null, .null, .int 0, .int 0, .null, .null, .int 0, .null, .int 0, .int 0, .int 0, .int 0, .null, .int 0, .null, .int 0, .long 0, .null, .null, .null, .null, .null, .null, .null, .null, .null, .null, .null, .null, .null, .null, .null, .null, .null, .null, .null, .null, .int 0, .null, .int 0, .int 0, .int 0, .null, .int 0, .long 0, .int 0, .null, .int 0]
  | _ => []
noncomputable def j_hasL : List Cond → List (Nat × Nat) → Bool := fun ws => List.rec (fun _ => true) (fun x _ ih ps => List.rec false (fun q r _ => j_has q.1 q.2 x && ih r) ps) ws
theorem j_hasL_in : ∀ {ws : List Cond} {ps : List (Nat × Nat)}, j_hasL ws ps = true → ∀ x ∈ ws, x ∈ j_TW := by
  intro ws
  induction ws with
  | nil => intro ps _ x hx; exact absurd hx List.not_mem_nil
  | cons a r ih =>
    intro ps h x hx
    cases ps with
    | nil => cases h
    | cons q ps =>
      have h' : (j_has q.1 q.2 a && j_hasL r ps) = true := h
      rw [Bool.and_eq_true] at h'
      rcases List.mem_cons.mp hx with e | e
      · rw [e]; exact j_has_in h'.1
      · exact ih h'.2 x e
theorem j_kw0 : ∀ x ∈ u_ws RX0 TX0 4, x ∈ j_TW := j_hasL_in (ps := [(2, 122), (2, 124), (2, 126), (2, 128)]) (by decide +kernel)
theorem j_ki0 : Cond.instantiable RX0 4 ∈ j_TW ∧ Cond.initialized RX0 ∈ j_TW := ⟨j_has_in (c := 2) (o := 112) (by decide +kernel), j_has_in (c := 1) (o := 13) (by decide +kernel)⟩
theorem j_kw1 : ∀ x ∈ u_ws RX1 TX1 2, x ∈ j_TW := j_hasL_in (ps := [(2, 206), (2, 208)]) (by decide +kernel)
theorem j_ki1 : Cond.instantiable RX1 2 ∈ j_TW ∧ Cond.initialized RX1 ∈ j_TW := ⟨j_has_in (c := 2) (o := 197) (by decide +kernel), j_has_in (c := 1) (o := 16) (by decide +kernel)⟩
theorem j_kw2 : ∀ x ∈ u_ws RX2 TX2 2, x ∈ j_TW := j_hasL_in (ps := [(1, 156), (1, 158)]) (by decide +kernel)
theorem j_ki2 : Cond.instantiable RX2 2 ∈ j_TW ∧ Cond.initialized RX2 ∈ j_TW := ⟨j_has_in (c := 1) (o := 147) (by decide +kernel), j_has_in (c := 1) (o := 8) (by decide +kernel)⟩
theorem j_kw3 : ∀ x ∈ u_ws RX3 TX3 11, x ∈ j_TW := j_hasL_in (ps := [(1, 180), (1, 182), (1, 184), (1, 186), (1, 188), (1, 190), (1, 192), (1, 194), (1, 196), (1, 198), (1, 200)]) (by decide +kernel)
theorem j_ki3 : Cond.instantiable RX3 11 ∈ j_TW ∧ Cond.initialized RX3 ∈ j_TW := ⟨j_has_in (c := 1) (o := 162) (by decide +kernel), j_has_in (c := 1) (o := 9) (by decide +kernel)⟩
theorem j_kw4 : ∀ x ∈ u_ws RX4 TX4 9, x ∈ j_TW := j_hasL_in (ps := [(2, 92), (2, 94), (2, 96), (2, 98), (2, 100), (2, 102), (2, 104), (2, 106), (2, 108)]) (by decide +kernel)
theorem j_ki4 : Cond.instantiable RX4 9 ∈ j_TW ∧ Cond.initialized RX4 ∈ j_TW := ⟨j_has_in (c := 2) (o := 61) (by decide +kernel), j_has_in (c := 1) (o := 12) (by decide +kernel)⟩
theorem j_kw5 : ∀ x ∈ u_ws RX5 TX5 15, x ∈ j_TW := j_hasL_in (ps := [(2, 152), (2, 154), (2, 156), (2, 158), (2, 160), (2, 162), (2, 164), (2, 166), (2, 168), (2, 170), (2, 172), (2, 174), (2, 176), (2, 178), (2, 180)]) (by decide +kernel)
theorem j_ki5 : Cond.instantiable RX5 15 ∈ j_TW ∧ Cond.initialized RX5 ∈ j_TW := ⟨j_has_in (c := 2) (o := 132) (by decide +kernel), j_has_in (c := 1) (o := 14) (by decide +kernel)⟩
theorem j_kw6 : ∀ x ∈ u_ws RX6 TX6 9, x ∈ j_TW := j_hasL_in (ps := [(1, 60), (1, 62), (1, 64), (1, 66), (1, 68), (1, 70), (1, 72), (1, 74), (1, 76)]) (by decide +kernel)
theorem j_ki6 : Cond.instantiable RX6 9 ∈ j_TW ∧ Cond.initialized RX6 ∈ j_TW := ⟨j_has_in (c := 1) (o := 31) (by decide +kernel), j_has_in (c := 1) (o := 2) (by decide +kernel)⟩
theorem j_kw7 : ∀ x ∈ u_ws RX7 TX7 8, x ∈ j_TW := j_hasL_in (ps := [(1, 226), (1, 228), (1, 230), (1, 232), (1, 234), (1, 236), (1, 238), (2, 0)]) (by decide +kernel)
theorem j_ki7 : Cond.instantiable RX7 8 ∈ j_TW ∧ Cond.initialized RX7 ∈ j_TW := ⟨j_has_in (c := 1) (o := 211) (by decide +kernel), j_has_in (c := 1) (o := 11) (by decide +kernel)⟩
theorem j_kw8 : ∀ x ∈ u_ws RX8 TX8 14, x ∈ j_TW := j_hasL_in (ps := [(2, 31), (2, 33), (2, 35), (2, 37), (2, 39), (2, 41), (2, 43), (2, 45), (2, 47), (2, 49), (2, 51), (2, 53), (2, 55), (2, 57)]) (by decide +kernel)
theorem j_ki8 : Cond.instantiable RX8 14 ∈ j_TW ∧ Cond.initialized RX8 ∈ j_TW := ⟨j_has_in (c := 1) (o := 205) (by decide +kernel), j_has_in (c := 1) (o := 10) (by decide +kernel)⟩
theorem j_kw9 : ∀ x ∈ u_ws RX9 TX9 2, x ∈ j_TW := j_hasL_in (ps := [(1, 140), (1, 142)]) (by decide +kernel)
theorem j_ki9 : Cond.instantiable RX9 2 ∈ j_TW ∧ Cond.initialized RX9 ∈ j_TW := ⟨j_has_in (c := 1) (o := 81) (by decide +kernel), j_has_in (c := 1) (o := 3) (by decide +kernel)⟩
theorem j_kw10 : ∀ x ∈ u_ws RX10 TX10 1, x ∈ j_TW := j_hasL_in (ps := [(2, 193)]) (by decide +kernel)
theorem j_ki10 : Cond.instantiable RX10 1 ∈ j_TW ∧ Cond.initialized RX10 ∈ j_TW := ⟨j_has_in (c := 2) (o := 184) (by decide +kernel), j_has_in (c := 1) (o := 15) (by decide +kernel)⟩
theorem j_kw11 : ∀ x ∈ u_ws RX11 TX11 16, x ∈ j_TW := j_hasL_in (ps := [(2, 227), (2, 229), (2, 231), (2, 233), (2, 235), (2, 237), (2, 239), (3, 1), (3, 3), (3, 5), (3, 7), (3, 9), (3, 11), (3, 13), (3, 15), (3, 17)]) (by decide +kernel)
theorem j_ki11 : Cond.instantiable RX11 16 ∈ j_TW ∧ Cond.initialized RX11 ∈ j_TW := ⟨j_has_in (c := 1) (o := 23) (by decide +kernel), j_has_in (c := 1) (o := 1) (by decide +kernel)⟩
theorem j_kw12 : ∀ x ∈ u_ws RX12 TX12 98, x ∈ j_TW := j_hasL_in (ps := [(6, 199), (6, 201), (6, 203), (6, 205), (6, 207), (6, 209), (6, 211), (6, 213), (6, 215), (6, 217), (6, 219), (6, 221), (6, 223), (6, 225), (6, 227), (6, 229), (6, 231), (6, 233), (6, 235), (6, 237), (6, 239), (7, 1), (7, 3), (7, 5), (7, 7), (7, 9), (7, 11), (7, 13), (7, 15), (7, 17), (7, 19), (7, 21), (7, 23), (7, 25), (7, 27), (7, 29), (7, 31), (7, 33), (7, 35), (7, 37), (7, 39), (7, 41), (7, 43), (7, 45), (7, 47), (7, 49), (7, 51), (7, 53), (7, 55), (7, 57), (7, 59), (7, 61), (7, 63), (7, 65), (7, 67), (7, 69), (7, 71), (7, 73), (7, 75), (7, 77), (7, 79), (7, 81), (7, 83), (7, 85), (7, 87), (7, 89), (7, 91), (7, 93), (7, 95), (7, 97), (7, 99), (7, 101), (7, 103), (7, 105), (7, 107), (7, 109), (7, 111), (7, 113), (7, 115), (7, 117), (7, 119), (7, 121), (7, 123), (7, 125), (7, 127), (7, 129), (7, 131), (7, 133), (7, 135), (7, 137), (7, 139), (7, 141), (7, 143), (7, 145), (7, 147), (7, 149), (7, 151), (7, 153)]) (by decide +kernel)
theorem j_ki12 : Cond.instantiable RX12 98 ∈ j_TW ∧ Cond.initialized RX12 ∈ j_TW := ⟨j_has_in (c := 6) (o := 96) (by decide +kernel), j_has_in (c := 1) (o := 17) (by decide +kernel)⟩
theorem j_kd_ok : j_kd vwCl j_TW j_df ∧ vwCl[99]? = none ∧ ∀ rr : vw_C, vwCl[4]? = some rr → rr.1 = "HundredWords$Row" := by
  refine ⟨?_, by decide +kernel, fun rr h => by cases h; rfl⟩
  intro ci C T N h
  match ci, h with
  | 0, h => cases h; exact ⟨j_kw0, ⟨tyX0, tyX0_ok, by decide +kernel, by decide +kernel⟩, nmX0⟩
  | 1, h => cases h; exact ⟨j_kw1, ⟨tyX1, tyX1_ok, by decide +kernel, by decide +kernel⟩, nmX1⟩
  | 2, h => cases h; exact ⟨j_kw2, ⟨tyX2, tyX2_ok, by decide +kernel, by decide +kernel⟩, nmX2⟩
  | 3, h => cases h; exact ⟨j_kw3, ⟨tyX3, tyX3_ok, by decide +kernel, by decide +kernel⟩, nmX3⟩
  | 4, h => cases h; exact ⟨j_kw4, ⟨tyX4, tyX4_ok, by decide +kernel, by decide +kernel⟩, nmX4⟩
  | 5, h => cases h; exact ⟨j_kw5, ⟨tyX5, tyX5_ok, by decide +kernel, by decide +kernel⟩, nmX5⟩
  | 6, h => cases h; exact ⟨j_kw6, ⟨tyX6, tyX6_ok, by decide +kernel, by decide +kernel⟩, nmX6⟩
  | 7, h => cases h; exact ⟨j_kw7, ⟨tyX7, tyX7_ok, by decide +kernel, by decide +kernel⟩, nmX7⟩
  | 8, h => cases h; exact ⟨j_kw8, ⟨tyX8, tyX8_ok, by decide +kernel, by decide +kernel⟩, nmX8⟩
  | 9, h => cases h; exact ⟨j_kw9, ⟨tyX9, tyX9_ok, by decide +kernel, by decide +kernel⟩, nmX9⟩
  | 10, h => cases h; exact ⟨j_kw10, ⟨tyX10, tyX10_ok, by decide +kernel, by decide +kernel⟩, nmX10⟩
  | 11, h => cases h; exact ⟨j_kw11, ⟨tyX11, tyX11_ok, by decide +kernel, by decide +kernel⟩, nmX11⟩
  | 12, h => cases h; exact ⟨j_kw12, ⟨tyX12, tyX12_ok, by decide +kernel, by decide +kernel⟩, nmX12⟩
  | _ + 13, h => exact absurd h (by simp [vwCl])
theorem j_ki_ok : ∀ (ci : Nat) (C : String) (T : u_T) (N : Nat), vwCl[ci]? = some (C, T, N) → Cond.instantiable C N ∈ j_TW ∧ Cond.initialized C ∈ j_TW := by
  intro ci C T N h
  match ci, h with
  | 0, h => cases h; exact j_ki0
  | 1, h => cases h; exact j_ki1
  | 2, h => cases h; exact j_ki2
  | 3, h => cases h; exact j_ki3
  | 4, h => cases h; exact j_ki4
  | 5, h => cases h; exact j_ki5
  | 6, h => cases h; exact j_ki6
  | 7, h => cases h; exact j_ki7
  | 8, h => cases h; exact j_ki8
  | 9, h => cases h; exact j_ki9
  | 10, h => cases h; exact j_ki10
  | 11, h => cases h; exact j_ki11
  | 12, h => cases h; exact j_ki12
  | _ + 13, h => exact absurd h (by simp [vwCl])
theorem j_oi : Cond.instanceMethod Lib.objectInit ∈ j_TW ∧ Cond.code Lib.objectInit ⟨#[0xb1]⟩ 1 none ∈ j_TW := ⟨j_has_in (c := 1) (o := 28) (by decide +kernel), j_has_in (c := 1) (o := 29) (by decide +kernel)⟩
def j_zs : List (String × String × String × Value) := [("HundredWords$Row", "NEXT", "[I", .ref 1), ("java/lang/String", "COMPACT_STRINGS", "Z", .int 1), ("jdk/internal/util/Preconditions", "SIOOBE_FORMATTER", "Ljava/util/function/BiFunction;", .ref 8)]
def j_ks : jK := ([("HundredWords$TongueReader", 15, "who   what  when  like  limit party wish  peace judgedvotes worth forbidfree  any   and   or    not   unless", .ref 2), ("HundredWords$LawReader", 17, "who   what  when  like  limit party wish  peace judgedvotes worth forbidfree  any   and   or    not   unless", .ref 3), ("HundredWords$Question", 15, "first last  often total most  least all   case  who   what  when  law   other borne min   max   and   or    not   ", .ref 4)], [.fieldLinkNest "HundredWords$Tongue" 95 "HundredWords$Told" "party" "[I" "HundredWords", .methodLinkNest "HundredWords$Row" 95 ⟨"HundredWords", "truth", "(Z)I"⟩ "HundredWords", .methodLinkNest "HundredWords$Row" 99 ⟨"HundredWords", "isIn", "(JI)Z"⟩ "HundredWords", .methodLinkNest "HundredWords$Shorts" 72 ⟨"HundredWords", "truth", "(Z)I"⟩ "HundredWords", .methodLinkNest "HundredWords$Way" 56 ⟨"HundredWords$Row", "givenBy", "(I)I"⟩ "HundredWords", .methodLinkNest "HundredWords$Question" 192 ⟨"HundredWords", "isIn", "(JI)Z"⟩ "HundredWords", .methodLinkNest "HundredWords$Question" 196 ⟨"HundredWords", "truth", "(Z)I"⟩ "HundredWords", .arrayOver (.object "HundredWords$Row")])
theorem j_ao : Cond.arrayOver (.object "HundredWords$Row") ∈ j_ks.2 := by decide +kernel
end
section
abbrev jI : Type := String × MethodName × ByteArray × Nat × Option FieldType × Nat × Nat × Nat
def jI_0 : List jI := [("HundredWords", ⟨"HundredWords", "<init>", "()V"⟩, prog_1_method_1_code, 1, none, 11, 2, 0),
  ("HundredWords$Tape", ⟨"HundredWords$Tape", "<init>", "()V"⟩, prog_8_method_1_code, 1, none, 6, 2, 0),
  ("HundredWords$TongueReader", ⟨"HundredWords$TongueReader", "<init>", "(LHundredWords$Tape;)V"⟩, prog_11_method_1_code, 2, none, 9, 2, 1),
  ("HundredWords$Tape", ⟨"HundredWords$Tape", "pack", "(Ljava/lang/String;)[I"⟩, prog_8_method_14_code, 5, some (.array .int), 6, 1, 1),
  ("java/lang/String", ⟨"java/lang/String", "length", "()I"⟩, prog_17_method_54_code, 1, some .int, 99, 0, 0),
  ("java/lang/String", ⟨"java/lang/String", "coder", "()B"⟩, prog_17_method_152_code, 1, some .byte, 99, 0, 0),
  ("java/lang/String", ⟨"java/lang/String", "charAt", "(I)C"⟩, prog_17_method_56_code, 2, some .char, 99, 0, 1),
  ("java/lang/String", ⟨"java/lang/String", "isLatin1", "()Z"⟩, prog_17_method_154_code, 1, some .boolean, 99, 0, 0),
  ("java/lang/StringLatin1", ⟨"java/lang/StringLatin1", "charAt", "([BI)C"⟩, prog_18_method_2_code, 2, some .char, 98, 1, 2),
  ("java/lang/String", ⟨"java/lang/String", "checkIndex", "(II)V"⟩, prog_17_method_155_code, 2, none, 99, 1, 2),
  ("jdk/internal/util/Preconditions", ⟨"jdk/internal/util/Preconditions", "checkIndex", "(IILjava/util/function/BiFunction;)I"⟩, prog_22_method_11_code, 3, some .int, 98, 1, 3),
  ("java/lang/StringUTF16", ⟨"java/lang/StringUTF16", "charAt", "([BI)C"⟩, prog_19_method_83_code, 2, some .char, 98, 1, 2),
  ("java/lang/StringUTF16", ⟨"java/lang/StringUTF16", "checkIndex", "(I[B)V"⟩, prog_19_method_91_code, 2, none, 98, 1, 2),
  ("java/lang/StringUTF16", ⟨"java/lang/StringUTF16", "length", "([B)I"⟩, prog_19_method_6_code, 1, some .int, 98, 1, 1),
  ("java/lang/StringUTF16", ⟨"java/lang/StringUTF16", "getChar", "([BI)C"⟩, prog_19_method_5_code, 2, some .char, 98, 1, 2),
  ("HundredWords$LawReader", ⟨"HundredWords$LawReader", "<init>", "(LHundredWords$Tape;)V"⟩, prog_4_method_1_code, 2, none, 2, 2, 1),
  ("HundredWords$Question", ⟨"HundredWords$Question", "<init>", "(LHundredWords$Tape;)V"⟩, prog_5_method_1_code, 2, none, 3, 2, 1),
  ("HundredWords$Tongue", ⟨"HundredWords$Tongue", "<init>", "()V"⟩, prog_10_method_1_code, 1, none, 8, 2, 0),
  ("HundredWords$Told", ⟨"HundredWords$Told", "<init>", "(I)V"⟩, prog_9_method_1_code, 2, none, 7, 2, 1),
  ("HundredWords$Row", ⟨"HundredWords$Row", "<init>", "()V"⟩, prog_6_method_1_code, 1, none, 4, 2, 0)]
def jI_1 : List jI := [("HundredWords$Acts", ⟨"HundredWords$Acts", "<init>", "()V"⟩, prog_2_method_1_code, 1, none, 0, 2, 0),
  ("HundredWords$Shorts", ⟨"HundredWords$Shorts", "<init>", "()V"⟩, prog_7_method_1_code, 1, none, 5, 2, 0),
  ("HundredWords$Way", ⟨"HundredWords$Way", "<init>", "()V"⟩, prog_12_method_1_code, 2, none, 10, 2, 0),
  ("HundredWords$Image", ⟨"HundredWords$Image", "<init>", "()V"⟩, prog_3_method_1_code, 1, none, 1, 2, 0),
  ("HundredWords", ⟨"HundredWords", "feed", "(IIIII)I"⟩, prog_1_method_2_code, 6, some .int, 11, 0, 5),
  ("HundredWords", ⟨"HundredWords", "refuse", "(I)I"⟩, prog_1_method_39_code, 2, some .int, 11, 0, 1),
  ("HundredWords$Tape", ⟨"HundredWords$Tape", "append", "(I)V"⟩, prog_8_method_2_code, 3, none, 6, 0, 1),
  ("HundredWords", ⟨"HundredWords", "end", "(I)Z"⟩, prog_1_method_3_code, 2, some .boolean, 11, 0, 1),
  ("HundredWords", ⟨"HundredWords", "tongue", "()I"⟩, prog_1_method_4_code, 3, some .int, 11, 0, 0),
  ("HundredWords$TongueReader", ⟨"HundredWords$TongueReader", "read", "(LHundredWords$Tongue;)I"⟩, prog_11_method_2_code, 4, some .int, 9, 0, 1),
  ("HundredWords$Tongue", ⟨"HundredWords$Tongue", "clear", "()V"⟩, prog_10_method_2_code, 1, none, 8, 0, 0),
  ("java/util/Arrays", ⟨"java/util/Arrays", "fill", "([II)V"⟩, prog_21_method_103_code, 4, none, 98, 1, 2),
  ("java/util/Arrays", ⟨"java/util/Arrays", "fill", "([JJ)V"⟩, prog_21_method_101_code, 5, none, 98, 1, 2),
  ("HundredWords$Told", ⟨"HundredWords$Told", "clear", "()V"⟩, prog_9_method_3_code, 1, none, 7, 0, 0),
  ("HundredWords$Tape", ⟨"HundredWords$Tape", "begin", "()V"⟩, prog_8_method_4_code, 1, none, 6, 0, 0),
  ("HundredWords$Tape", ⟨"HundredWords$Tape", "look", "()I"⟩, prog_8_method_6_code, 1, some .int, 6, 0, 0),
  ("HundredWords$TongueReader", ⟨"HundredWords$TongueReader", "takesKind", "(LHundredWords$Tongue;)I"⟩, prog_11_method_3_code, 3, some .int, 9, 0, 1),
  ("HundredWords$Tape", ⟨"HundredWords$Tape", "seesWord", "()Z"⟩, prog_8_method_7_code, 2, some .boolean, 6, 0, 0),
  ("HundredWords$Tape", ⟨"HundredWords$Tape", "isLetter", "(I)Z"⟩, prog_8_method_15_code, 1, some .boolean, 6, 1, 1),
  ("HundredWords$Tape", ⟨"HundredWords$Tape", "octetAt", "(I)I"⟩, prog_8_method_3_code, 2, some .int, 6, 0, 1)]
def jI_2 : List jI := [("HundredWords$Tape", ⟨"HundredWords$Tape", "isDigit", "(I)Z"⟩, prog_8_method_16_code, 1, some .boolean, 6, 1, 1),
  ("HundredWords$Tape", ⟨"HundredWords$Tape", "rankIn", "([I)I"⟩, prog_8_method_9_code, 3, some .int, 6, 0, 1),
  ("HundredWords$Tape", ⟨"HundredWords$Tape", "blame", "(II)Z"⟩, prog_8_method_5_code, 3, some .boolean, 6, 0, 2),
  ("HundredWords$Tongue", ⟨"HundredWords$Tongue", "isFull", "(I)Z"⟩, prog_10_method_4_code, 2, some .boolean, 8, 0, 1),
  ("HundredWords$Told", ⟨"HundredWords$Told", "isFull", "()Z"⟩, prog_9_method_2_code, 1, some .boolean, 7, 0, 0),
  ("HundredWords$Tape", ⟨"HundredWords$Tape", "pass", "()V"⟩, prog_8_method_8_code, 1, none, 6, 0, 0),
  ("HundredWords$TongueReader", ⟨"HundredWords$TongueReader", "takesRest", "(LHundredWords$Tongue;I)Z"⟩, prog_11_method_4_code, 3, some .boolean, 9, 0, 2),
  ("HundredWords$TongueReader", ⟨"HundredWords$TongueReader", "takesLike", "(LHundredWords$Tongue;)Z"⟩, prog_11_method_7_code, 4, some .boolean, 9, 0, 1),
  ("HundredWords$TongueReader", ⟨"HundredWords$TongueReader", "takesNewWord", "(LHundredWords$Tongue;)Z"⟩, prog_11_method_5_code, 2, some .boolean, 9, 0, 1),
  ("HundredWords$Tape", ⟨"HundredWords$Tape", "takesFreeWord", "([I)Z"⟩, prog_8_method_12_code, 2, some .boolean, 6, 0, 1),
  ("HundredWords$Tongue", ⟨"HundredWords$Tongue", "find", "(I)I"⟩, prog_10_method_5_code, 3, some .int, 8, 0, 1),
  ("HundredWords$Tongue", ⟨"HundredWords$Tongue", "isParty", "(I)Z"⟩, prog_10_method_6_code, 2, some .boolean, 8, 0, 1),
  ("HundredWords$Tongue", ⟨"HundredWords$Tongue", "addLike", "(II)V"⟩, prog_10_method_8_code, 3, none, 8, 0, 2),
  ("HundredWords$TongueReader", ⟨"HundredWords$TongueReader", "takesLimit", "(LHundredWords$Tongue;)Z"⟩, prog_11_method_8_code, 2, some .boolean, 9, 0, 1),
  ("HundredWords$Tape", ⟨"HundredWords$Tape", "takesNumber", "(II)Z"⟩, prog_8_method_13_code, 3, some .boolean, 6, 0, 2),
  ("HundredWords$TongueReader", ⟨"HundredWords$TongueReader", "takesParty", "(LHundredWords$Tongue;)Z"⟩, prog_11_method_9_code, 3, some .boolean, 9, 0, 1),
  ("HundredWords$Tape", ⟨"HundredWords$Tape", "takesWordOf", "([II)Z"⟩, prog_8_method_11_code, 3, some .boolean, 6, 0, 2),
  ("HundredWords$Tongue", ⟨"HundredWords$Tongue", "addParty", "(II)V"⟩, prog_10_method_9_code, 3, none, 8, 0, 2),
  ("HundredWords$TongueReader", ⟨"HundredWords$TongueReader", "takesWisher", "(LHundredWords$Tongue;)Z"⟩, prog_11_method_10_code, 3, some .boolean, 9, 0, 1),
  ("HundredWords$Told", ⟨"HundredWords$Told", "setParty", "(I)V"⟩, prog_9_method_4_code, 2, none, 7, 0, 1)]
def jI_3 : List jI := [("HundredWords$TongueReader", ⟨"HundredWords$TongueReader", "takesCases", "(LHundredWords$Tongue;LHundredWords$Told;)Z"⟩, prog_11_method_12_code, 5, some .boolean, 9, 0, 2),
  ("HundredWords$Told", ⟨"HundredWords$Told", "setHow", "(Z)V"⟩, prog_9_method_5_code, 2, none, 7, 0, 1),
  ("HundredWords$TongueReader", ⟨"HundredWords$TongueReader", "takesOne", "(LHundredWords$Tongue;LHundredWords$Told;I)Z"⟩, prog_11_method_13_code, 6, some .boolean, 9, 0, 3),
  ("HundredWords$Told", ⟨"HundredWords$Told", "setOne", "(II)V"⟩, prog_9_method_6_code, 4, none, 7, 0, 2),
  ("HundredWords$TongueReader", ⟨"HundredWords$TongueReader", "takesWorth", "(LHundredWords$Told;)Z"⟩, prog_11_method_11_code, 2, some .boolean, 9, 0, 1),
  ("HundredWords$Told", ⟨"HundredWords$Told", "close", "(I)Z"⟩, prog_9_method_7_code, 2, some .boolean, 7, 0, 1),
  ("HundredWords$TongueReader", ⟨"HundredWords$TongueReader", "takesWordOfSort", "(LHundredWords$Tongue;I)Z"⟩, prog_11_method_6_code, 3, some .boolean, 9, 0, 2),
  ("HundredWords$Tongue", ⟨"HundredWords$Tongue", "addWord", "(II)V"⟩, prog_10_method_7_code, 3, none, 8, 0, 2),
  ("HundredWords$Tape", ⟨"HundredWords$Tape", "takes", "(I)Z"⟩, prog_8_method_10_code, 2, some .boolean, 6, 0, 1),
  ("HundredWords$Tongue", ⟨"HundredWords$Tongue", "settle", "()V"⟩, prog_10_method_10_code, 6, none, 8, 0, 0),
  ("HundredWords$Told", ⟨"HundredWords$Told", "settle", "(J[J)V"⟩, prog_9_method_8_code, 7, none, 7, 0, 2),
  ("HundredWords$Row", ⟨"HundredWords$Row", "clear", "()V"⟩, prog_6_method_3_code, 1, none, 4, 0, 0),
  ("HundredWords$Acts", ⟨"HundredWords$Acts", "forget", "()V"⟩, prog_2_method_2_code, 1, none, 0, 0, 0),
  ("HundredWords$Shorts", ⟨"HundredWords$Shorts", "forget", "()V"⟩, prog_7_method_2_code, 1, none, 5, 0, 0),
  ("HundredWords", ⟨"HundredWords", "law", "(Z)I"⟩, prog_1_method_5_code, 3, some .int, 11, 0, 1),
  ("HundredWords$LawReader", ⟨"HundredWords$LawReader", "read", "(LHundredWords$Tongue;LHundredWords$Row;)Z"⟩, prog_4_method_2_code, 7, some .boolean, 2, 0, 2),
  ("HundredWords$LawReader", ⟨"HundredWords$LawReader", "hasRoom", "(LHundredWords$Tongue;LHundredWords$Row;I)Z"⟩, prog_4_method_3_code, 4, some .boolean, 2, 0, 3),
  ("HundredWords$LawReader", ⟨"HundredWords$LawReader", "takesStop", "(I)I"⟩, prog_4_method_4_code, 2, some .int, 2, 0, 1),
  ("HundredWords$Row", ⟨"HundredWords$Row", "next", "(II)I"⟩, prog_6_method_2_code, 4, some .int, 4, 1, 2),
  ("HundredWords$LawReader", ⟨"HundredWords$LawReader", "takesWord", "(LHundredWords$Tongue;I)I"⟩, prog_4_method_5_code, 5, some .int, 2, 0, 2)]
def jI_4 : List jI := [("HundredWords$Row", ⟨"HundredWords$Row", "add", "(I)V"⟩, prog_6_method_4_code, 2, none, 4, 0, 1),
  ("HundredWords$Row", ⟨"HundredWords$Row", "weight", "(I)I"⟩, prog_6_method_20_code, 1, some .int, 4, 1, 1),
  ("HundredWords$Row", ⟨"HundredWords$Row", "weigh", "(LHundredWords$Tongue;)V"⟩, prog_6_method_9_code, 4, none, 4, 0, 1),
  ("HundredWords$Row", ⟨"HundredWords$Row", "weighSentence", "(LHundredWords$Tongue;)J"⟩, prog_6_method_10_code, 12, some .long, 4, 0, 1),
  ("HundredWords$Row", ⟨"HundredWords$Row", "copy", "(LHundredWords$Row;)V"⟩, prog_6_method_5_code, 2, none, 4, 0, 1),
  ("HundredWords$Tongue", ⟨"HundredWords$Tongue", "keepsPeace", "(J)Z"⟩, prog_10_method_14_code, 3, some .boolean, 8, 0, 1),
  ("HundredWords$Told", ⟨"HundredWords$Told", "areAllKept", "(J)Z"⟩, prog_9_method_9_code, 3, some .boolean, 7, 0, 1),
  ("HundredWords", ⟨"HundredWords", "enactTrial", "()I"⟩, prog_1_method_40_code, 1, some .int, 11, 0, 0),
  ("HundredWords$Acts", ⟨"HundredWords$Acts", "keep", "(LHundredWords$Row;)V"⟩, prog_2_method_3_code, 2, none, 0, 0, 1),
  ("HundredWords", ⟨"HundredWords", "fault", "(I)I"⟩, prog_1_method_6_code, 2, some .int, 11, 0, 1),
  ("HundredWords", ⟨"HundredWords", "has", "(I)I"⟩, prog_1_method_7_code, 2, some .int, 11, 0, 1),
  ("HundredWords$Tongue", ⟨"HundredWords$Tongue", "number", "(I)I"⟩, prog_10_method_3_code, 2, some .int, 8, 0, 1),
  ("HundredWords", ⟨"HundredWords", "letter", "(II)I"⟩, prog_1_method_8_code, 3, some .int, 11, 0, 2),
  ("HundredWords$Tongue", ⟨"HundredWords$Tongue", "letterOf", "(II)I"⟩, prog_10_method_11_code, 3, some .int, 8, 0, 2),
  ("HundredWords", ⟨"HundredWords", "sign", "(ZI)I"⟩, prog_1_method_9_code, 4, some .int, 11, 0, 2),
  ("HundredWords", ⟨"HundredWords", "size", "(ZI)I"⟩, prog_1_method_10_code, 4, some .int, 11, 0, 2),
  ("java/lang/Long", ⟨"java/lang/Long", "bitCount", "(J)I"⟩, prog_15_method_50_code, 2, some .int, 98, 1, 1),
  ("HundredWords$Row", ⟨"HundredWords$Row", "idleSentences", "()I"⟩, prog_6_method_11_code, 6, some .int, 4, 0, 0),
  ("HundredWords", ⟨"HundredWords", "truth", "(Z)I"⟩, prog_1_method_48_code, 1, some .int, 11, 1, 1),
  ("HundredWords", ⟨"HundredWords", "forbids", "(ZI)I"⟩, prog_1_method_11_code, 4, some .int, 11, 0, 2)]
def jI_5 : List jI := [("HundredWords$Tongue", ⟨"HundredWords$Tongue", "isCase", "(I)Z"⟩, prog_10_method_13_code, 2, some .boolean, 8, 0, 1),
  ("HundredWords", ⟨"HundredWords", "isIn", "(JI)Z"⟩, prog_1_method_49_code, 3, some .boolean, 11, 1, 2),
  ("HundredWords", ⟨"HundredWords", "borne", "(II)I"⟩, prog_1_method_12_code, 3, some .int, 11, 0, 2),
  ("HundredWords$Row", ⟨"HundredWords$Row", "bearer", "(II)I"⟩, prog_6_method_12_code, 5, some .int, 4, 0, 2),
  ("HundredWords", ⟨"HundredWords", "led", "(II)I"⟩, prog_1_method_13_code, 5, some .int, 11, 0, 2),
  ("HundredWords$Row", ⟨"HundredWords$Row", "follows", "(LHundredWords$Tongue;LHundredWords$Row;I)Z"⟩, prog_6_method_13_code, 4, some .boolean, 4, 0, 3),
  ("HundredWords$Row", ⟨"HundredWords$Row", "canTurn", "(LHundredWords$Tongue;I)Z"⟩, prog_6_method_15_code, 9, some .boolean, 4, 0, 2),
  ("HundredWords$Row", ⟨"HundredWords$Row", "givenBy", "(I)I"⟩, prog_6_method_14_code, 1, some .int, 4, 1, 1),
  ("HundredWords$Tongue", ⟨"HundredWords$Tongue", "hasSign", "(I)Z"⟩, prog_10_method_12_code, 2, some .boolean, 8, 0, 1),
  ("HundredWords$Row", ⟨"HundredWords$Row", "goesOn", "(II)Z"⟩, prog_6_method_16_code, 5, some .boolean, 4, 0, 2),
  ("HundredWords$Row", ⟨"HundredWords$Row", "turn", "(LHundredWords$Row;I)V"⟩, prog_6_method_17_code, 8, none, 4, 0, 2),
  ("HundredWords$Row", ⟨"HundredWords$Row", "weighBeside", "(LHundredWords$Tongue;LHundredWords$Row;I)V"⟩, prog_6_method_18_code, 8, none, 4, 0, 3),
  ("HundredWords$Row", ⟨"HundredWords$Row", "sentenceAt", "(I)I"⟩, prog_6_method_19_code, 3, some .int, 4, 0, 1),
  ("HundredWords", ⟨"HundredWords", "price", "(I)I"⟩, prog_1_method_14_code, 2, some .int, 11, 0, 1),
  ("HundredWords", ⟨"HundredWords", "put", "(II)I"⟩, prog_1_method_15_code, 3, some .int, 11, 0, 2),
  ("HundredWords", ⟨"HundredWords", "isSpot", "(II)Z"⟩, prog_1_method_41_code, 3, some .boolean, 11, 0, 2),
  ("HundredWords", ⟨"HundredWords", "change", "(I)I"⟩, prog_1_method_42_code, 2, some .int, 11, 0, 1),
  ("HundredWords", ⟨"HundredWords", "isChange", "(I)Z"⟩, prog_1_method_43_code, 2, some .boolean, 11, 0, 1),
  ("HundredWords", ⟨"HundredWords", "strike", "(I)I"⟩, prog_1_method_16_code, 2, some .int, 11, 0, 1),
  ("HundredWords", ⟨"HundredWords", "swap", "(II)I"⟩, prog_1_method_17_code, 3, some .int, 11, 0, 2)]
def jI_6 : List jI := [("HundredWords", ⟨"HundredWords", "undo", "()Z"⟩, prog_1_method_18_code, 1, some .boolean, 11, 0, 0),
  ("HundredWords$Acts", ⟨"HundredWords$Acts", "takeBack", "(LHundredWords$Row;)V"⟩, prog_2_method_4_code, 2, none, 0, 0, 1),
  ("HundredWords", ⟨"HundredWords", "changes", "(I)I"⟩, prog_1_method_19_code, 2, some .int, 11, 0, 1),
  ("HundredWords", ⟨"HundredWords", "countChanges", "(II)I"⟩, prog_1_method_44_code, 6, some .int, 11, 0, 2),
  ("HundredWords", ⟨"HundredWords", "fewest", "(ZI)I"⟩, prog_1_method_20_code, 4, some .int, 11, 0, 2),
  ("HundredWords$Shorts", ⟨"HundredWords$Shorts", "fewestFor", "(LHundredWords$Tongue;JII)I"⟩, prog_7_method_6_code, 7, some .int, 5, 0, 4),
  ("HundredWords$Shorts", ⟨"HundredWords$Shorts", "prepare", "(LHundredWords$Tongue;)V"⟩, prog_7_method_7_code, 2, none, 5, 0, 1),
  ("HundredWords$Shorts", ⟨"HundredWords$Shorts", "listLiterals", "(LHundredWords$Tongue;)V"⟩, prog_7_method_8_code, 3, none, 5, 0, 1),
  ("HundredWords$Shorts", ⟨"HundredWords$Shorts", "listSentences", "()V"⟩, prog_7_method_9_code, 3, none, 5, 0, 0),
  ("HundredWords$Shorts", ⟨"HundredWords$Shorts", "chooseSentences", "()V"⟩, prog_7_method_10_code, 4, none, 5, 0, 0),
  ("HundredWords$Shorts", ⟨"HundredWords$Shorts", "slotOf", "(J)I"⟩, prog_7_method_12_code, 6, some .int, 5, 0, 1),
  ("HundredWords$Shorts", ⟨"HundredWords$Shorts", "wordsOf", "(I)I"⟩, prog_7_method_13_code, 3, some .int, 5, 0, 1),
  ("HundredWords$Shorts", ⟨"HundredWords$Shorts", "gatherFitting", "(LHundredWords$Tongue;)V"⟩, prog_7_method_11_code, 3, none, 5, 0, 1),
  ("HundredWords$Shorts", ⟨"HundredWords$Shorts", "seek", "(JI)V"⟩, prog_7_method_14_code, 5, none, 5, 0, 2),
  ("HundredWords$Shorts", ⟨"HundredWords$Shorts", "note", "(IIIII)V"⟩, prog_7_method_15_code, 6, none, 5, 0, 5),
  ("HundredWords$Shorts", ⟨"HundredWords$Shorts", "seekPairs", "(JI)V"⟩, prog_7_method_16_code, 11, none, 5, 0, 2),
  ("HundredWords$Shorts", ⟨"HundredWords$Shorts", "gatherWithin", "(J)I"⟩, prog_7_method_17_code, 7, some .int, 5, 0, 1),
  ("HundredWords$Shorts", ⟨"HundredWords$Shorts", "weighPair", "(III)V"⟩, prog_7_method_18_code, 8, none, 5, 0, 3),
  ("java/lang/Math", ⟨"java/lang/Math", "min", "(II)I"⟩, prog_16_method_69_code, 2, some .int, 98, 3, 2),
  ("java/lang/Math", ⟨"java/lang/Math", "max", "(II)I"⟩, prog_16_method_65_code, 2, some .int, 98, 3, 2)]
def jI_7 : List jI := [("HundredWords", ⟨"HundredWords", "shorts", "()I"⟩, prog_1_method_21_code, 1, some .int, 11, 0, 0),
  ("HundredWords$Shorts", ⟨"HundredWords$Shorts", "total", "(LHundredWords$Tongue;)I"⟩, prog_7_method_3_code, 2, some .int, 5, 0, 1),
  ("HundredWords", ⟨"HundredWords", "brief", "(II)I"⟩, prog_1_method_22_code, 3, some .int, 11, 0, 2),
  ("HundredWords$Shorts", ⟨"HundredWords$Shorts", "tell", "(LHundredWords$Tongue;II)I"⟩, prog_7_method_4_code, 4, some .int, 5, 0, 3),
  ("HundredWords", ⟨"HundredWords", "way", "()I"⟩, prog_1_method_23_code, 1, some .int, 11, 0, 0),
  ("HundredWords$Way", ⟨"HundredWords$Way", "measure", "(LHundredWords$Tongue;LHundredWords$Row;LHundredWords$Row;)I"⟩, prog_12_method_2_code, 5, some .int, 10, 0, 3),
  ("HundredWords$Row", ⟨"HundredWords$Row", "isSame", "(LHundredWords$Row;)Z"⟩, prog_6_method_8_code, 4, some .boolean, 4, 0, 1),
  ("HundredWords$Way", ⟨"HundredWords$Way", "isNear", "(LHundredWords$Row;ILHundredWords$Row;II)Z"⟩, prog_12_method_5_code, 9, some .boolean, 10, 1, 5),
  ("java/lang/Math", ⟨"java/lang/Math", "abs", "(I)I"⟩, prog_16_method_59_code, 1, some .int, 98, 3, 1),
  ("HundredWords$Way", ⟨"HundredWords$Way", "leads", "(LHundredWords$Tongue;LHundredWords$Row;LHundredWords$Row;I)Z"⟩, prog_12_method_3_code, 9, some .boolean, 10, 0, 4),
  ("HundredWords$Way", ⟨"HundredWords$Way", "isOnTheWay", "(LHundredWords$Row;II)Z"⟩, prog_12_method_4_code, 6, some .boolean, 10, 1, 3),
  ("HundredWords", ⟨"HundredWords", "hole", "(ZI)I"⟩, prog_1_method_24_code, 5, some .int, 11, 0, 2),
  ("HundredWords", ⟨"HundredWords", "nthCase", "(JI)I"⟩, prog_1_method_50_code, 5, some .int, 11, 1, 2),
  ("HundredWords", ⟨"HundredWords", "parts", "()I"⟩, prog_1_method_25_code, 1, some .int, 11, 0, 0),
  ("HundredWords", ⟨"HundredWords", "worth", "(ZI)I"⟩, prog_1_method_26_code, 4, some .int, 11, 0, 2),
  ("HundredWords$Tongue", ⟨"HundredWords$Tongue", "worthFor", "(IJ)I"⟩, prog_10_method_15_code, 6, some .int, 8, 0, 2),
  ("HundredWords$Told", ⟨"HundredWords$Told", "worthOf", "(IJ)I"⟩, prog_9_method_11_code, 6, some .int, 7, 0, 2),
  ("HundredWords", ⟨"HundredWords", "votes", "(Z)I"⟩, prog_1_method_27_code, 2, some .int, 11, 0, 1),
  ("HundredWords$Tongue", ⟨"HundredWords$Tongue", "votesOn", "(JJZ)I"⟩, prog_10_method_16_code, 8, some .int, 8, 0, 3),
  ("HundredWords$Tongue", ⟨"HundredWords$Tongue", "weighGains", "(JJ)V"⟩, prog_10_method_18_code, 7, none, 8, 0, 2)]
def jI_8 : List jI := [("HundredWords", ⟨"HundredWords", "rest", "()I"⟩, prog_1_method_28_code, 1, some .int, 11, 0, 0),
  ("HundredWords", ⟨"HundredWords", "findsVoted", "()Z"⟩, prog_1_method_45_code, 3, some .boolean, 11, 0, 0),
  ("HundredWords$Tongue", ⟨"HundredWords$Tongue", "isVoted", "(JJ)Z"⟩, prog_10_method_17_code, 7, some .boolean, 8, 0, 2),
  ("HundredWords", ⟨"HundredWords", "spring", "(I)I"⟩, prog_1_method_29_code, 3, some .int, 11, 0, 1),
  ("HundredWords", ⟨"HundredWords", "fitting", "(I)I"⟩, prog_1_method_30_code, 2, some .int, 11, 0, 1),
  ("HundredWords$Shorts", ⟨"HundredWords$Shorts", "fittingOnes", "(LHundredWords$Tongue;I)I"⟩, prog_7_method_5_code, 3, some .int, 5, 0, 2),
  ("HundredWords", ⟨"HundredWords", "judged", "()I"⟩, prog_1_method_31_code, 1, some .int, 11, 0, 0),
  ("HundredWords$Told", ⟨"HundredWords$Told", "firstBroken", "(J)I"⟩, prog_9_method_10_code, 6, some .int, 7, 0, 1),
  ("HundredWords", ⟨"HundredWords", "seed", "(I)Z"⟩, prog_1_method_32_code, 2, some .boolean, 11, 0, 1),
  ("HundredWords", ⟨"HundredWords", "stroke", "()I"⟩, prog_1_method_33_code, 2, some .int, 11, 0, 0),
  ("HundredWords", ⟨"HundredWords", "draw", "(I)I"⟩, prog_1_method_46_code, 2, some .int, 11, 0, 1),
  ("HundredWords", ⟨"HundredWords", "ask", "()J"⟩, prog_1_method_34_code, 2, some .long, 11, 0, 0),
  ("HundredWords$Question", ⟨"HundredWords$Question", "read", "()Z"⟩, prog_5_method_2_code, 1, some .boolean, 3, 0, 0),
  ("HundredWords$Question", ⟨"HundredWords$Question", "takesTest", "()Z"⟩, prog_5_method_6_code, 2, some .boolean, 3, 0, 0),
  ("HundredWords$Question", ⟨"HundredWords$Question", "takesBoth", "()Z"⟩, prog_5_method_7_code, 2, some .boolean, 3, 0, 0),
  ("HundredWords$Question", ⟨"HundredWords$Question", "takesFact", "()Z"⟩, prog_5_method_8_code, 1, some .boolean, 3, 0, 0),
  ("HundredWords$Question", ⟨"HundredWords$Question", "takesBracket", "()Z"⟩, prog_5_method_9_code, 1, some .boolean, 3, 0, 0),
  ("HundredWords$Question", ⟨"HundredWords$Question", "opens", "()Z"⟩, prog_5_method_5_code, 1, some .boolean, 3, 0, 0),
  ("HundredWords$Question", ⟨"HundredWords$Question", "sees", "(I)Z"⟩, prog_5_method_3_code, 2, some .boolean, 3, 0, 1),
  ("HundredWords$Question", ⟨"HundredWords$Question", "takesDenied", "()Z"⟩, prog_5_method_10_code, 1, some .boolean, 3, 0, 0)]
def jI_9 : List jI := [("HundredWords$Question", ⟨"HundredWords$Question", "then", "(I)V"⟩, prog_5_method_4_code, 2, none, 3, 0, 1),
  ("HundredWords$Question", ⟨"HundredWords$Question", "takesComparison", "()Z"⟩, prog_5_method_11_code, 2, some .boolean, 3, 0, 0),
  ("HundredWords$Question", ⟨"HundredWords$Question", "takesSum", "()Z"⟩, prog_5_method_12_code, 3, some .boolean, 3, 0, 0),
  ("HundredWords$Question", ⟨"HundredWords$Question", "takesProduct", "()Z"⟩, prog_5_method_13_code, 3, some .boolean, 3, 0, 0),
  ("HundredWords$Question", ⟨"HundredWords$Question", "takesPart", "()Z"⟩, prog_5_method_14_code, 3, some .boolean, 3, 0, 0),
  ("HundredWords$Question", ⟨"HundredWords$Question", "takesNumber", "()Z"⟩, prog_5_method_15_code, 1, some .boolean, 3, 0, 0),
  ("HundredWords$Question", ⟨"HundredWords$Question", "takesHeld", "(I)Z"⟩, prog_5_method_17_code, 2, some .boolean, 3, 0, 1),
  ("HundredWords$Question", ⟨"HundredWords$Question", "takesBorne", "()Z"⟩, prog_5_method_16_code, 1, some .boolean, 3, 0, 0),
  ("HundredWords$Question", ⟨"HundredWords$Question", "answer", "(LHundredWords$Tongue;LHundredWords$Row;LHundredWords$Row;)J"⟩, prog_5_method_18_code, 9, some .long, 3, 0, 3),
  ("HundredWords$Question", ⟨"HundredWords$Question", "valueIn", "(I)J"⟩, prog_5_method_20_code, 6, some .long, 3, 0, 1),
  ("HundredWords$Question", ⟨"HundredWords$Question", "push", "(J)V"⟩, prog_5_method_21_code, 3, none, 3, 0, 1),
  ("HundredWords$Question", ⟨"HundredWords$Question", "plain", "(II)J"⟩, prog_5_method_23_code, 5, some .long, 3, 0, 2),
  ("HundredWords$Question", ⟨"HundredWords$Question", "pop", "()J"⟩, prog_5_method_22_code, 1, some .long, 3, 0, 0),
  ("HundredWords$Question", ⟨"HundredWords$Question", "bornePart", "(JI)J"⟩, prog_5_method_24_code, 4, some .long, 3, 0, 2),
  ("HundredWords$Question", ⟨"HundredWords$Question", "joint", "(IJJ)J"⟩, prog_5_method_25_code, 5, some .long, 3, 1, 3),
  ("HundredWords$Question", ⟨"HundredWords$Question", "held", "(J)J"⟩, prog_5_method_26_code, 2, some .long, 3, 1, 1),
  ("java/lang/Math", ⟨"java/lang/Math", "min", "(JJ)J"⟩, prog_16_method_70_code, 4, some .long, 98, 3, 2),
  ("java/lang/Math", ⟨"java/lang/Math", "max", "(JJ)J"⟩, prog_16_method_66_code, 4, some .long, 98, 3, 2),
  ("java/lang/Math", ⟨"java/lang/Math", "floorDiv", "(JJ)J"⟩, prog_16_method_49_code, 6, some .long, 98, 3, 2),
  ("HundredWords$Question", ⟨"HundredWords$Question", "joined", "(JJI)J"⟩, prog_5_method_19_code, 6, some .long, 3, 0, 3)]
def jI_10 : List jI := [("HundredWords", ⟨"HundredWords", "image", "()I"⟩, prog_1_method_35_code, 1, some .int, 11, 0, 0),
  ("HundredWords$Image", ⟨"HundredWords$Image", "write", "(LHundredWords$Row;LHundredWords$Row;)V"⟩, prog_3_method_2_code, 3, none, 1, 0, 2),
  ("HundredWords$Image", ⟨"HundredWords$Image", "tell", "(LHundredWords$Row;)V"⟩, prog_3_method_3_code, 3, none, 1, 0, 1),
  ("HundredWords$Image", ⟨"HundredWords$Image", "add", "(I)V"⟩, prog_3_method_4_code, 2, none, 1, 0, 1),
  ("HundredWords$Image", ⟨"HundredWords$Image", "seal", "([II)I"⟩, prog_3_method_5_code, 4, some .int, 1, 1, 2),
  ("HundredWords", ⟨"HundredWords", "octet", "(I)I"⟩, prog_1_method_36_code, 2, some .int, 11, 0, 1),
  ("HundredWords", ⟨"HundredWords", "restore", "()Z"⟩, prog_1_method_37_code, 2, some .boolean, 11, 0, 0),
  ("HundredWords", ⟨"HundredWords", "isImage", "()Z"⟩, prog_1_method_47_code, 3, some .boolean, 11, 0, 0),
  ("HundredWords$Row", ⟨"HundredWords$Row", "load", "(LHundredWords$Tape;I)I"⟩, prog_6_method_6_code, 5, some .int, 4, 0, 2),
  ("HundredWords$Row", ⟨"HundredWords$Row", "isLawful", "(LHundredWords$Tongue;)Z"⟩, prog_6_method_7_code, 4, some .boolean, 4, 0, 1),
  ("HundredWords", ⟨"HundredWords", "status", "(I)I"⟩, prog_1_method_38_code, 2, some .int, 11, 0, 1),
  ("HundredWordsModel", ⟨"HundredWordsModel", "<init>", "()V"⟩, prog_14_method_1_code, 1, none, 12, 2, 0),
  ("HundredWordsModel", ⟨"HundredWordsModel", "feed", "(IIIII)I"⟩, prog_14_method_3_code, 8, some .int, 12, 0, 5),
  ("HundredWordsModel", ⟨"HundredWordsModel", "end", "(I)Z"⟩, prog_14_method_4_code, 2, some .boolean, 12, 0, 1),
  ("HundredWordsModel", ⟨"HundredWordsModel", "tongue", "()I"⟩, prog_14_method_30_code, 2, some .int, 12, 0, 0),
  ("HundredWordsModel", ⟨"HundredWordsModel", "begins", "()V"⟩, prog_14_method_28_code, 1, none, 12, 0, 0),
  ("HundredWordsModel", ⟨"HundredWordsModel", "look", "()I"⟩, prog_14_method_8_code, 1, some .int, 12, 0, 0),
  ("HundredWordsModel", ⟨"HundredWordsModel", "statementTold", "()V"⟩, prog_14_method_27_code, 2, none, 12, 0, 0),
  ("HundredWordsModel", ⟨"HundredWordsModel", "fail", "(II)V"⟩, prog_14_method_5_code, 3, none, 12, 0, 2),
  ("HundredWordsModel", ⟨"HundredWordsModel", "takes", "([C)Z"⟩, prog_14_method_10_code, 2, some .boolean, 12, 0, 1)]
def jI_11 : List jI := [("HundredWordsModel", ⟨"HundredWordsModel", "isHere", "([C)Z"⟩, prog_14_method_9_code, 4, some .boolean, 12, 0, 1),
  ("HundredWordsModel", ⟨"HundredWordsModel", "isLetter", "(I)Z"⟩, prog_14_method_6_code, 1, some .boolean, 12, 1, 1),
  ("HundredWordsModel", ⟨"HundredWordsModel", "newWord", "(II)V"⟩, prog_14_method_21_code, 6, none, 12, 0, 2),
  ("HundredWordsModel", ⟨"HundredWordsModel", "freeFrom", "(II)I"⟩, prog_14_method_20_code, 4, some .int, 12, 0, 2),
  ("HundredWordsModel", ⟨"HundredWordsModel", "newSpelt", "()J"⟩, prog_14_method_19_code, 3, some .long, 12, 0, 0),
  ("HundredWordsModel", ⟨"HundredWordsModel", "spelt", "()J"⟩, prog_14_method_16_code, 3, some .long, 12, 0, 0),
  ("HundredWordsModel", ⟨"HundredWordsModel", "isOwnHere", "()Z"⟩, prog_14_method_15_code, 2, some .boolean, 12, 0, 0),
  ("HundredWordsModel", ⟨"HundredWordsModel", "signOf", "(J)I"⟩, prog_14_method_17_code, 4, some .int, 12, 0, 1),
  ("HundredWordsModel", ⟨"HundredWordsModel", "partyOf", "(J)I"⟩, prog_14_method_18_code, 4, some .int, 12, 0, 1),
  ("HundredWordsModel", ⟨"HundredWordsModel", "newLike", "(I)V"⟩, prog_14_method_22_code, 8, none, 12, 0, 1),
  ("HundredWordsModel", ⟨"HundredWordsModel", "number", "(II)I"⟩, prog_14_method_14_code, 5, some .int, 12, 0, 2),
  ("HundredWordsModel", ⟨"HundredWordsModel", "isDigit", "(I)Z"⟩, prog_14_method_7_code, 1, some .boolean, 12, 1, 1),
  ("HundredWordsModel", ⟨"HundredWordsModel", "isIn", "(JJJ)Z"⟩, prog_14_method_2_code, 6, some .boolean, 12, 1, 3),
  ("HundredWordsModel", ⟨"HundredWordsModel", "newParty", "(I)V"⟩, prog_14_method_23_code, 5, none, 12, 0, 1),
  ("HundredWordsModel", ⟨"HundredWordsModel", "asks", "([C)V"⟩, prog_14_method_11_code, 2, none, 12, 0, 1),
  ("HundredWordsModel", ⟨"HundredWordsModel", "newRuled", "(III)V"⟩, prog_14_method_26_code, 11, none, 12, 0, 3),
  ("HundredWordsModel", ⟨"HundredWordsModel", "ruledAt", "(I)I"⟩, prog_14_method_25_code, 1, some .int, 12, 1, 1),
  ("HundredWordsModel", ⟨"HundredWordsModel", "oneOf", "(I)I"⟩, prog_14_method_24_code, 6, some .int, 12, 0, 1),
  ("HundredWordsModel", ⟨"HundredWordsModel", "asksSign", "(I)V"⟩, prog_14_method_13_code, 2, none, 12, 0, 1),
  ("HundredWordsModel", ⟨"HundredWordsModel", "takesSign", "(I)Z"⟩, prog_14_method_12_code, 2, some .boolean, 12, 0, 1)]
def jI_12 : List jI := [("HundredWordsModel", ⟨"HundredWordsModel", "hasEnded", "()Z"⟩, prog_14_method_29_code, 1, some .boolean, 12, 0, 0),
  ("HundredWordsModel", ⟨"HundredWordsModel", "stands", "()V"⟩, prog_14_method_31_code, 2, none, 12, 0, 0),
  ("HundredWordsModel", ⟨"HundredWordsModel", "sets", "()V"⟩, prog_14_method_35_code, 3, none, 12, 0, 0),
  ("HundredWordsModel", ⟨"HundredWordsModel", "casesMany", "()I"⟩, prog_14_method_33_code, 1, some .int, 12, 0, 0),
  ("HundredWordsModel", ⟨"HundredWordsModel", "many", "(I)I"⟩, prog_14_method_32_code, 4, some .int, 12, 0, 1),
  ("HundredWordsModel", ⟨"HundredWordsModel", "partOf", "(II)I"⟩, prog_14_method_34_code, 3, some .int, 12, 0, 2),
  ("HundredWordsModel", ⟨"HundredWordsModel", "isOfRuled", "(II)Z"⟩, prog_14_method_36_code, 4, some .boolean, 12, 0, 2),
  ("HundredWordsModel", ⟨"HundredWordsModel", "shortsTold", "()V"⟩, prog_14_method_83_code, 4, none, 12, 0, 0),
  ("HundredWordsModel", ⟨"HundredWordsModel", "literalSet", "(I)J"⟩, prog_14_method_80_code, 4, some .long, 12, 0, 1),
  ("HundredWordsModel", ⟨"HundredWordsModel", "literalWords", "(I)I"⟩, prog_14_method_81_code, 2, some .int, 12, 0, 1),
  ("HundredWordsModel", ⟨"HundredWordsModel", "shortIs", "(JI)V"⟩, prog_14_method_82_code, 4, none, 12, 0, 2),
  ("HundredWordsModel", ⟨"HundredWordsModel", "law", "(Z)I"⟩, prog_14_method_42_code, 2, some .int, 12, 0, 1),
  ("HundredWordsModel", ⟨"HundredWordsModel", "isRoom", "()Z"⟩, prog_14_method_38_code, 2, some .boolean, 12, 0, 0),
  ("HundredWordsModel", ⟨"HundredWordsModel", "sentenceTold", "()V"⟩, prog_14_method_41_code, 3, none, 12, 0, 0),
  ("HundredWordsModel", ⟨"HundredWordsModel", "termTold", "()V"⟩, prog_14_method_39_code, 4, none, 12, 0, 0),
  ("HundredWordsModel", ⟨"HundredWordsModel", "reads", "(I)V"⟩, prog_14_method_37_code, 2, none, 12, 0, 1),
  ("HundredWordsModel", ⟨"HundredWordsModel", "standing", "(J)I"⟩, prog_14_method_40_code, 4, some .int, 12, 0, 1),
  ("HundredWordsModel", ⟨"HundredWordsModel", "triesRead", "()V"⟩, prog_14_method_44_code, 2, none, 12, 0, 0),
  ("HundredWordsModel", ⟨"HundredWordsModel", "keepsPeace", "()Z"⟩, prog_14_method_55_code, 6, some .boolean, 12, 0, 0),
  ("HundredWordsModel", ⟨"HundredWordsModel", "forbidden", "()J"⟩, prog_14_method_53_code, 4, some .long, 12, 0, 0)]
def jI_13 : List jI := [("HundredWordsModel", ⟨"HundredWordsModel", "setOf", "(I)J"⟩, prog_14_method_52_code, 13, some .long, 12, 0, 1),
  ("HundredWordsModel", ⟨"HundredWordsModel", "behind", "(I)I"⟩, prog_14_method_51_code, 3, some .int, 12, 0, 1),
  ("HundredWordsModel", ⟨"HundredWordsModel", "keeps", "()V"⟩, prog_14_method_72_code, 2, none, 12, 0, 0),
  ("HundredWordsModel", ⟨"HundredWordsModel", "laysTried", "(I)V"⟩, prog_14_method_46_code, 3, none, 12, 0, 1),
  ("HundredWordsModel", ⟨"HundredWordsModel", "fault", "(I)I"⟩, prog_14_method_43_code, 2, some .int, 12, 0, 1),
  ("HundredWordsModel", ⟨"HundredWordsModel", "has", "(I)I"⟩, prog_14_method_59_code, 4, some .int, 12, 0, 1),
  ("HundredWordsModel", ⟨"HundredWordsModel", "letter", "(II)I"⟩, prog_14_method_61_code, 8, some .int, 12, 0, 2),
  ("HundredWordsModel", ⟨"HundredWordsModel", "nameOf", "(I)J"⟩, prog_14_method_60_code, 2, some .long, 12, 0, 1),
  ("HundredWordsModel", ⟨"HundredWordsModel", "sign", "(ZI)I"⟩, prog_14_method_63_code, 4, some .int, 12, 0, 2),
  ("HundredWordsModel", ⟨"HundredWordsModel", "which", "(Z)I"⟩, prog_14_method_62_code, 1, some .int, 12, 1, 1),
  ("HundredWordsModel", ⟨"HundredWordsModel", "size", "(ZI)I"⟩, prog_14_method_66_code, 3, some .int, 12, 0, 2),
  ("HundredWordsModel", ⟨"HundredWordsModel", "triesLaw", "(I)V"⟩, prog_14_method_45_code, 3, none, 12, 0, 1),
  ("HundredWordsModel", ⟨"HundredWordsModel", "wordsTried", "()I"⟩, prog_14_method_64_code, 3, some .int, 12, 0, 0),
  ("HundredWordsModel", ⟨"HundredWordsModel", "bits", "(J)I"⟩, prog_14_method_57_code, 5, some .int, 12, 1, 1),
  ("HundredWordsModel", ⟨"HundredWordsModel", "needless", "()I"⟩, prog_14_method_65_code, 8, some .int, 12, 0, 0),
  ("HundredWordsModel", ⟨"HundredWordsModel", "forbids", "(ZI)I"⟩, prog_14_method_67_code, 3, some .int, 12, 0, 2),
  ("HundredWordsModel", ⟨"HundredWordsModel", "isCase", "(I)Z"⟩, prog_14_method_58_code, 2, some .boolean, 12, 0, 1),
  ("HundredWordsModel", ⟨"HundredWordsModel", "forbiddenBy", "(I)J"⟩, prog_14_method_54_code, 2, some .long, 12, 0, 1),
  ("HundredWordsModel", ⟨"HundredWordsModel", "borne", "(II)I"⟩, prog_14_method_68_code, 6, some .int, 12, 0, 2),
  ("HundredWordsModel", ⟨"HundredWordsModel", "led", "(II)I"⟩, prog_14_method_70_code, 5, some .int, 12, 0, 2)]
def jI_14 : List jI := [("HundredWordsModel", ⟨"HundredWordsModel", "bears", "(II)Z"⟩, prog_14_method_69_code, 3, some .boolean, 12, 0, 2),
  ("HundredWordsModel", ⟨"HundredWordsModel", "strikes", "(I)V"⟩, prog_14_method_48_code, 3, none, 12, 0, 1),
  ("HundredWordsModel", ⟨"HundredWordsModel", "isLawful", "()Z"⟩, prog_14_method_50_code, 7, some .boolean, 12, 0, 0),
  ("HundredWordsModel", ⟨"HundredWordsModel", "isWordSign", "(I)Z"⟩, prog_14_method_49_code, 2, some .boolean, 12, 0, 1),
  ("HundredWordsModel", ⟨"HundredWordsModel", "price", "(I)I"⟩, prog_14_method_71_code, 4, some .int, 12, 0, 1),
  ("HundredWordsModel", ⟨"HundredWordsModel", "undo", "()Z"⟩, prog_14_method_73_code, 2, some .boolean, 12, 0, 0),
  ("HundredWordsModel", ⟨"HundredWordsModel", "put", "(II)I"⟩, prog_14_method_76_code, 3, some .int, 12, 0, 2),
  ("HundredWordsModel", ⟨"HundredWordsModel", "makes", "(III)I"⟩, prog_14_method_75_code, 4, some .int, 12, 0, 3),
  ("HundredWordsModel", ⟨"HundredWordsModel", "triesOther", "(IIII)Z"⟩, prog_14_method_74_code, 5, some .boolean, 12, 0, 4),
  ("HundredWordsModel", ⟨"HundredWordsModel", "putsIn", "(II)V"⟩, prog_14_method_47_code, 4, none, 12, 0, 2),
  ("HundredWordsModel", ⟨"HundredWordsModel", "isChange", "()Z"⟩, prog_14_method_56_code, 1, some .boolean, 12, 0, 0),
  ("HundredWordsModel", ⟨"HundredWordsModel", "strike", "(I)I"⟩, prog_14_method_77_code, 2, some .int, 12, 0, 1),
  ("HundredWordsModel", ⟨"HundredWordsModel", "swap", "(II)I"⟩, prog_14_method_78_code, 3, some .int, 12, 0, 2),
  ("HundredWordsModel", ⟨"HundredWordsModel", "changes", "(I)I"⟩, prog_14_method_79_code, 5, some .int, 12, 0, 1),
  ("HundredWordsModel", ⟨"HundredWordsModel", "fewest", "(ZI)I"⟩, prog_14_method_86_code, 3, some .int, 12, 0, 2),
  ("HundredWordsModel", ⟨"HundredWordsModel", "finds", "(J)V"⟩, prog_14_method_85_code, 5, none, 12, 0, 1),
  ("HundredWordsModel", ⟨"HundredWordsModel", "isFewer", "(III)V"⟩, prog_14_method_84_code, 4, none, 12, 0, 3),
  ("HundredWordsModel", ⟨"HundredWordsModel", "shorts", "()I"⟩, prog_14_method_87_code, 1, some .int, 12, 0, 0),
  ("HundredWordsModel", ⟨"HundredWordsModel", "brief", "(II)I"⟩, prog_14_method_90_code, 3, some .int, 12, 0, 2),
  ("HundredWordsModel", ⟨"HundredWordsModel", "isFitting", "(I)Z"⟩, prog_14_method_89_code, 2, some .boolean, 12, 0, 1)]
def jI_15 : List jI := [("HundredWordsModel", ⟨"HundredWordsModel", "judgedSet", "(I)J"⟩, prog_14_method_88_code, 5, some .long, 12, 0, 1),
  ("HundredWordsModel", ⟨"HundredWordsModel", "way", "()I"⟩, prog_14_method_97_code, 5, some .int, 12, 0, 0),
  ("HundredWordsModel", ⟨"HundredWordsModel", "putsAside", "()V"⟩, prog_14_method_91_code, 2, none, 12, 0, 0),
  ("HundredWordsModel", ⟨"HundredWordsModel", "apart", "()I"⟩, prog_14_method_92_code, 5, some .int, 12, 0, 0),
  ("HundredWordsModel", ⟨"HundredWordsModel", "changesOther", "()V"⟩, prog_14_method_95_code, 4, none, 12, 0, 0),
  ("HundredWordsModel", ⟨"HundredWordsModel", "coded", "(III)I"⟩, prog_14_method_93_code, 3, some .int, 12, 1, 3),
  ("HundredWordsModel", ⟨"HundredWordsModel", "triesCoded", "(II)Z"⟩, prog_14_method_94_code, 3, some .boolean, 12, 0, 2),
  ("HundredWordsModel", ⟨"HundredWordsModel", "isNearOther", "()Z"⟩, prog_14_method_96_code, 2, some .boolean, 12, 0, 0),
  ("HundredWordsModel", ⟨"HundredWordsModel", "hole", "(ZI)I"⟩, prog_14_method_99_code, 7, some .int, 12, 0, 2),
  ("HundredWordsModel", ⟨"HundredWordsModel", "bitAt", "(JI)I"⟩, prog_14_method_98_code, 5, some .int, 12, 1, 2),
  ("HundredWordsModel", ⟨"HundredWordsModel", "parts", "()I"⟩, prog_14_method_100_code, 1, some .int, 12, 0, 0),
  ("HundredWordsModel", ⟨"HundredWordsModel", "worth", "(ZI)I"⟩, prog_14_method_103_code, 3, some .int, 12, 0, 2),
  ("HundredWordsModel", ⟨"HundredWordsModel", "isParty", "(I)Z"⟩, prog_14_method_102_code, 2, some .boolean, 12, 0, 1),
  ("HundredWordsModel", ⟨"HundredWordsModel", "worthOf", "(JI)I"⟩, prog_14_method_101_code, 7, some .int, 12, 0, 2),
  ("HundredWordsModel", ⟨"HundredWordsModel", "votes", "(Z)I"⟩, prog_14_method_105_code, 6, some .int, 12, 0, 1),
  ("HundredWordsModel", ⟨"HundredWordsModel", "votesFor", "(JJ)I"⟩, prog_14_method_104_code, 7, some .int, 12, 0, 2),
  ("HundredWordsModel", ⟨"HundredWordsModel", "rest", "()I"⟩, prog_14_method_108_code, 1, some .int, 12, 0, 0),
  ("HundredWordsModel", ⟨"HundredWordsModel", "triesVoted", "()Z"⟩, prog_14_method_107_code, 5, some .boolean, 12, 0, 0),
  ("HundredWordsModel", ⟨"HundredWordsModel", "isVoted", "(J)Z"⟩, prog_14_method_106_code, 5, some .boolean, 12, 0, 1),
  ("HundredWordsModel", ⟨"HundredWordsModel", "spring", "(I)I"⟩, prog_14_method_109_code, 3, some .int, 12, 0, 1)]
def jI_16 : List jI := [("HundredWordsModel", ⟨"HundredWordsModel", "fitting", "(I)I"⟩, prog_14_method_110_code, 8, some .int, 12, 0, 1),
  ("HundredWordsModel", ⟨"HundredWordsModel", "judged", "()I"⟩, prog_14_method_111_code, 4, some .int, 12, 0, 0),
  ("HundredWordsModel", ⟨"HundredWordsModel", "seed", "(I)Z"⟩, prog_14_method_112_code, 2, some .boolean, 12, 0, 1),
  ("HundredWordsModel", ⟨"HundredWordsModel", "stroke", "()I"⟩, prog_14_method_113_code, 2, some .int, 12, 0, 0),
  ("HundredWordsModel", ⟨"HundredWordsModel", "ask", "()J"⟩, prog_14_method_142_code, 3, some .long, 12, 0, 0),
  ("HundredWordsModel", ⟨"HundredWordsModel", "qKind", "()I"⟩, prog_14_method_140_code, 2, some .int, 12, 0, 0),
  ("HundredWordsModel", ⟨"HundredWordsModel", "qTest", "()V"⟩, prog_14_method_131_code, 3, none, 12, 0, 0),
  ("HundredWordsModel", ⟨"HundredWordsModel", "qOpens", "(II)V"⟩, prog_14_method_115_code, 3, none, 12, 0, 2),
  ("HundredWordsModel", ⟨"HundredWordsModel", "qFact", "()V"⟩, prog_14_method_128_code, 2, none, 12, 0, 0),
  ("HundredWordsModel", ⟨"HundredWordsModel", "qCode", "(I)V"⟩, prog_14_method_114_code, 2, none, 12, 0, 1),
  ("HundredWordsModel", ⟨"HundredWordsModel", "qSums", "()V"⟩, prog_14_method_127_code, 3, none, 12, 0, 0),
  ("HundredWordsModel", ⟨"HundredWordsModel", "qPartTold", "()V"⟩, prog_14_method_125_code, 6, none, 12, 0, 0),
  ("HundredWordsModel", ⟨"HundredWordsModel", "qWordOf", "(II)I"⟩, prog_14_method_122_code, 4, some .int, 12, 0, 2),
  ("HundredWordsModel", ⟨"HundredWordsModel", "qWordHere", "()I"⟩, prog_14_method_121_code, 1, some .int, 12, 0, 0),
  ("HundredWordsModel", ⟨"HundredWordsModel", "qAsksWord", "(I)V"⟩, prog_14_method_123_code, 2, none, 12, 0, 1),
  ("HundredWordsModel", ⟨"HundredWordsModel", "qEndsPart", "()V"⟩, prog_14_method_124_code, 1, none, 12, 0, 0),
  ("HundredWordsModel", ⟨"HundredWordsModel", "qDrops", "()V"⟩, prog_14_method_117_code, 1, none, 12, 0, 0),
  ("HundredWordsModel", ⟨"HundredWordsModel", "qGoesOn", "()Z"⟩, prog_14_method_126_code, 2, some .boolean, 12, 0, 0),
  ("HundredWordsModel", ⟨"HundredWordsModel", "qBracket", "()I"⟩, prog_14_method_119_code, 2, some .int, 12, 0, 0),
  ("HundredWordsModel", ⟨"HundredWordsModel", "qIsBracket", "(I)Z"⟩, prog_14_method_118_code, 1, some .boolean, 12, 1, 1)]
def jI_17 : List jI := [("HundredWordsModel", ⟨"HundredWordsModel", "qDropsToBracket", "()V"⟩, prog_14_method_120_code, 1, none, 12, 0, 0),
  ("HundredWordsModel", ⟨"HundredWordsModel", "qIsOn", "(I)Z"⟩, prog_14_method_116_code, 2, some .boolean, 12, 0, 1),
  ("HundredWordsModel", ⟨"HundredWordsModel", "qDropsNots", "()V"⟩, prog_14_method_130_code, 1, none, 12, 0, 0),
  ("HundredWordsModel", ⟨"HundredWordsModel", "qGoesOnTest", "()Z"⟩, prog_14_method_132_code, 1, some .boolean, 12, 0, 0),
  ("HundredWordsModel", ⟨"HundredWordsModel", "qHasSquare", "()Z"⟩, prog_14_method_129_code, 2, some .boolean, 12, 0, 0),
  ("HundredWordsModel", ⟨"HundredWordsModel", "qTold", "(I)J"⟩, prog_14_method_139_code, 4, some .long, 12, 0, 1),
  ("HundredWordsModel", ⟨"HundredWordsModel", "qPuts", "(J)V"⟩, prog_14_method_135_code, 3, none, 12, 0, 1),
  ("HundredWordsModel", ⟨"HundredWordsModel", "qOf", "(IJI)J"⟩, prog_14_method_138_code, 5, some .long, 12, 0, 3),
  ("HundredWordsModel", ⟨"HundredWordsModel", "qBorne", "(JI)J"⟩, prog_14_method_143_code, 6, some .long, 12, 0, 2),
  ("HundredWordsModel", ⟨"HundredWordsModel", "qClip", "(J)J"⟩, prog_14_method_133_code, 2, some .long, 12, 1, 1),
  ("HundredWordsModel", ⟨"HundredWordsModel", "qPartOf", "(II)J"⟩, prog_14_method_137_code, 3, some .long, 12, 0, 2),
  ("HundredWordsModel", ⟨"HundredWordsModel", "qJoins", "(I)V"⟩, prog_14_method_136_code, 6, none, 12, 0, 1),
  ("HundredWordsModel", ⟨"HundredWordsModel", "qFloor", "(JJ)J"⟩, prog_14_method_134_code, 6, some .long, 12, 1, 2),
  ("HundredWordsModel", ⟨"HundredWordsModel", "qTakes", "(IJI)V"⟩, prog_14_method_141_code, 6, none, 12, 0, 3),
  ("HundredWordsModel", ⟨"HundredWordsModel", "image", "()I"⟩, prog_14_method_145_code, 3, some .int, 12, 0, 0),
  ("HundredWordsModel", ⟨"HundredWordsModel", "checked", "([II)I"⟩, prog_14_method_144_code, 4, some .int, 12, 1, 2),
  ("HundredWordsModel", ⟨"HundredWordsModel", "octet", "(I)I"⟩, prog_14_method_146_code, 2, some .int, 12, 0, 1),
  ("HundredWordsModel", ⟨"HundredWordsModel", "restore", "()Z"⟩, prog_14_method_148_code, 4, some .boolean, 12, 0, 0),
  ("HundredWordsModel", ⟨"HundredWordsModel", "isTold", "(II)Z"⟩, prog_14_method_147_code, 4, some .boolean, 12, 0, 2),
  ("HundredWordsModel", ⟨"HundredWordsModel", "status", "(I)I"⟩, prog_14_method_149_code, 2, some .int, 12, 0, 1)]
def jI_18 : List jI := [("HundredWordsLaw", ⟨"HundredWordsLaw", "law", "([I)Z"⟩, code, 4, some .boolean, 98, 3, 1)]
def jIs : List (List jI) := [jI_0, jI_1, jI_2, jI_3, jI_4, jI_5, jI_6, jI_7, jI_8, jI_9, jI_10, jI_11, jI_12, jI_13, jI_14, jI_15, jI_16, jI_17, jI_18]
noncomputable def j_mi (k : Nat) : jI := match j_nth jIs (k / 20) with
  | some l => (match j_nth l (k % 20) with | some x => x | none => ("", ⟨"", "", ""⟩, ⟨#[]⟩, 0, none, 98, 9, 0))
  | none => ("", ⟨"", "", ""⟩, ⟨#[]⟩, 0, none, 98, 9, 0)
noncomputable def j_own (k : Nat) : String := (j_mi k).1
noncomputable def j_yn (k : Nat) : MethodName := (j_mi k).2.1
noncomputable def j_bt (k : Nat) : ByteArray := (j_mi k).2.2.1
noncomputable def j_mx (k : Nat) : Nat := (j_mi k).2.2.2.1
noncomputable def j_rt (k : Nat) : Option FieldType := (j_mi k).2.2.2.2.1
noncomputable def j_rc (k : Nat) : Nat := (j_mi k).2.2.2.2.2.1
noncomputable def j_kn (k : Nat) : Nat := (j_mi k).2.2.2.2.2.2.1
noncomputable def j_np (k : Nat) : Nat := (j_mi k).2.2.2.2.2.2.2
/-- what is said of a method that is called: kind 0 of an object, 1 without one, 2 a constructor -/
def j_mf (k : Nat) : Prop := j_kn k = 3 ∨ (j_cal j_yn j_bt j_rt j_mx j_own j_TW k ∧ (parseMethodDescriptor (j_yn k).desc).map (fun d => d.parameters.length) = some (j_np k) ∧
  (j_kn k = 0 → Cond.instanceMethod (j_yn k) ∈ j_TW ∧ Cond.selects (j_yn k).cls (j_yn k) (j_yn k) ∈ j_TW ∧ ((j_rc k = 99 ∧ (j_yn k).cls = "java/lang/String") ∨ (¬ j_rc k = 99 ∧ ∃ r : vw_C, vwCl[j_rc k]? = some r ∧ r.1 = (j_yn k).cls))) ∧
  (j_kn k = 1 → Cond.static (j_yn k) ∈ j_TW) ∧ (j_kn k = 2 → Cond.instanceMethod (j_yn k) ∈ j_TW ∧ (j_yn k).name = "<init>" ∧ j_rt k = none))
noncomputable def j_mchk (k : Nat) (c1 o1 c2 o2 c3 o3 : Nat) : Bool :=
  j_has c1 o1 (.initialized (j_yn k).cls) && plainName (j_yn k).cls && decide ((j_yn k).cls ≠ "java/lang/invoke/MethodHandle") && decide ((j_yn k).cls ≠ "java/lang/invoke/VarHandle") && decide (j_own k = (j_yn k).cls) && decide ((parseMethodDescriptor (j_yn k).desc).map (fun d => d.parameters.length) = some (j_np k)) &&
  (match j_kn k with
    | 0 => j_has c2 o2 (.instanceMethod (j_yn k)) && j_has c3 o3 (.selects (j_yn k).cls (j_yn k) (j_yn k)) && (cond (Nat.beq (j_rc k) 99) (decide ((j_yn k).cls = "java/lang/String")) (match vwCl[j_rc k]? with | some r => decide (r.1 = (j_yn k).cls) | none => false))
    | 1 => j_has c2 o2 (.static (j_yn k))
    | 2 => j_has c2 o2 (.instanceMethod (j_yn k)) && decide ((j_yn k).name = "<init>") && decide (j_rt k = none)
    | _ => false)
theorem j_mchk_ok {k c1 o1 c2 o2 c3 o3 c4 o4 : Nat} (h : j_mchk k c1 o1 c2 o2 c3 o3 = true) (hc : j_wd c4 o4 = some (.code (j_yn k) (j_bt k) (j_mx k) (j_rt k))) : j_mf k := by
  unfold j_mchk at h
  simp only [Bool.and_eq_true, decide_eq_true_eq] at h
  obtain ⟨⟨⟨⟨⟨⟨h1, h2⟩, h3⟩, h4⟩, h5⟩, h6⟩, h7⟩ := h
  refine Or.inr ⟨⟨j_wd_in hc rfl, j_has_in h1, h2, ⟨h3, h4⟩, h5⟩, h6, fun e => ?_, fun e => ?_, fun e => ?_⟩
  · rw [e] at h7
    simp only [Bool.and_eq_true] at h7
    refine ⟨j_has_in h7.1.1, j_has_in h7.1.2, ?_⟩
    have h8 := h7.2
    cases hb : Nat.beq (j_rc k) 99 with
    | true =>
      rw [hb] at h8
      exact Or.inl ⟨Nat.eq_of_beq_eq_true hb, of_decide_eq_true h8⟩
    | false =>
      rw [hb] at h8
      refine Or.inr ⟨(fun z => by rw [z] at hb; cases hb), ?_⟩
      simp only [cond_false] at h8
      split at h8
      · rename_i r hr
        exact ⟨r, hr, of_decide_eq_true h8⟩
      · cases h8
  · rw [e] at h7
    exact j_has_in h7
  · rw [e] at h7
    simp only [Bool.and_eq_true, decide_eq_true_eq] at h7
    exact ⟨j_has_in h7.1.1, h7.1.2, h7.2⟩
/-- of all places from one on -/
def j_from {α : Type} (P : Nat → α → Prop) (i : Nat) (l : List α) : Prop := ∀ (j : Nat) (x : α), l[j]? = some x → P (i + j) x
theorem j_from_nil {α : Type} {P : Nat → α → Prop} {i : Nat} : j_from P i [] := fun j x h => by simp at h
theorem j_from_cons {α : Type} {P : Nat → α → Prop} {i : Nat} {a : α} {l : List α} (h1 : P i a) (h2 : j_from P (i + 1) l) : j_from P i (a :: l) := fun j x h => by
  cases j with
  | zero => cases h; exact h1
  | succ j =>
    have := h2 j x h
    rw [show i + (j + 1) = i + 1 + j by omega]
    exact this
theorem jmf_0 : j_mf 0 := j_mchk_ok (c1 := 1) (o1 := 1) (c2 := 1) (o2 := 25) (c3 := 0) (o3 := 0) (c4 := 1) (o4 := 26) (by decide +kernel) rfl
theorem jmf_1 : j_mf 1 := j_mchk_ok (c1 := 1) (o1 := 2) (c2 := 1) (o2 := 33) (c3 := 0) (o3 := 0) (c4 := 1) (o4 := 34) (by decide +kernel) rfl
theorem jmf_2 : j_mf 2 := j_mchk_ok (c1 := 1) (o1 := 3) (c2 := 1) (o2 := 83) (c3 := 0) (o3 := 0) (c4 := 1) (o4 := 84) (by decide +kernel) rfl
theorem jmf_3 : j_mf 3 := j_mchk_ok (c1 := 1) (o1 := 2) (c2 := 1) (o2 := 88) (c3 := 0) (o3 := 0) (c4 := 1) (o4 := 89) (by decide +kernel) rfl
theorem jmf_4 : j_mf 4 := j_mchk_ok (c1 := 1) (o1 := 4) (c2 := 1) (o2 := 91) (c3 := 1) (o3 := 92) (c4 := 1) (o4 := 93) (by decide +kernel) rfl
theorem jmf_5 : j_mf 5 := j_mchk_ok (c1 := 1) (o1 := 4) (c2 := 1) (o2 := 95) (c3 := 1) (o3 := 96) (c4 := 1) (o4 := 97) (by decide +kernel) rfl
theorem jmf_6 : j_mf 6 := j_mchk_ok (c1 := 1) (o1 := 4) (c2 := 1) (o2 := 101) (c3 := 1) (o3 := 102) (c4 := 1) (o4 := 103) (by decide +kernel) rfl
theorem jmf_7 : j_mf 7 := j_mchk_ok (c1 := 1) (o1 := 4) (c2 := 1) (o2 := 105) (c3 := 1) (o3 := 106) (c4 := 1) (o4 := 107) (by decide +kernel) rfl
theorem jmf_8 : j_mf 8 := j_mchk_ok (c1 := 1) (o1 := 5) (c2 := 1) (o2 := 109) (c3 := 0) (o3 := 0) (c4 := 1) (o4 := 110) (by decide +kernel) rfl
theorem jmf_9 : j_mf 9 := j_mchk_ok (c1 := 1) (o1 := 4) (c2 := 1) (o2 := 112) (c3 := 0) (o3 := 0) (c4 := 1) (o4 := 113) (by decide +kernel) rfl
theorem jmf_10 : j_mf 10 := j_mchk_ok (c1 := 1) (o1 := 6) (c2 := 1) (o2 := 117) (c3 := 0) (o3 := 0) (c4 := 1) (o4 := 118) (by decide +kernel) rfl
theorem jmf_11 : j_mf 11 := j_mchk_ok (c1 := 1) (o1 := 7) (c2 := 1) (o2 := 120) (c3 := 0) (o3 := 0) (c4 := 1) (o4 := 121) (by decide +kernel) rfl
theorem jmf_12 : j_mf 12 := j_mchk_ok (c1 := 1) (o1 := 7) (c2 := 1) (o2 := 123) (c3 := 0) (o3 := 0) (c4 := 1) (o4 := 124) (by decide +kernel) rfl
theorem jmf_13 : j_mf 13 := j_mchk_ok (c1 := 1) (o1 := 7) (c2 := 1) (o2 := 126) (c3 := 0) (o3 := 0) (c4 := 1) (o4 := 127) (by decide +kernel) rfl
theorem jmf_14 : j_mf 14 := j_mchk_ok (c1 := 1) (o1 := 7) (c2 := 1) (o2 := 130) (c3 := 0) (o3 := 0) (c4 := 1) (o4 := 131) (by decide +kernel) rfl
theorem jmf_15 : j_mf 15 := j_mchk_ok (c1 := 1) (o1 := 8) (c2 := 1) (o2 := 149) (c3 := 0) (o3 := 0) (c4 := 1) (o4 := 150) (by decide +kernel) rfl
theorem jmf_16 : j_mf 16 := j_mchk_ok (c1 := 1) (o1 := 9) (c2 := 1) (o2 := 164) (c3 := 0) (o3 := 0) (c4 := 1) (o4 := 165) (by decide +kernel) rfl
theorem jmf_17 : j_mf 17 := j_mchk_ok (c1 := 1) (o1 := 10) (c2 := 1) (o2 := 207) (c3 := 0) (o3 := 0) (c4 := 1) (o4 := 208) (by decide +kernel) rfl
theorem jmf_18 : j_mf 18 := j_mchk_ok (c1 := 1) (o1 := 11) (c2 := 1) (o2 := 213) (c3 := 0) (o3 := 0) (c4 := 1) (o4 := 214) (by decide +kernel) rfl
theorem jmf_19 : j_mf 19 := j_mchk_ok (c1 := 1) (o1 := 12) (c2 := 2) (o2 := 63) (c3 := 0) (o3 := 0) (c4 := 2) (o4 := 64) (by decide +kernel) rfl
theorem jmf_20 : j_mf 20 := j_mchk_ok (c1 := 1) (o1 := 13) (c2 := 2) (o2 := 114) (c3 := 0) (o3 := 0) (c4 := 2) (o4 := 115) (by decide +kernel) rfl
theorem jmf_21 : j_mf 21 := j_mchk_ok (c1 := 1) (o1 := 14) (c2 := 2) (o2 := 134) (c3 := 0) (o3 := 0) (c4 := 2) (o4 := 135) (by decide +kernel) rfl
theorem jmf_22 : j_mf 22 := j_mchk_ok (c1 := 1) (o1 := 15) (c2 := 2) (o2 := 186) (c3 := 0) (o3 := 0) (c4 := 2) (o4 := 187) (by decide +kernel) rfl
theorem jmf_23 : j_mf 23 := j_mchk_ok (c1 := 1) (o1 := 16) (c2 := 2) (o2 := 199) (c3 := 0) (o3 := 0) (c4 := 2) (o4 := 200) (by decide +kernel) rfl
theorem jmf_24 : j_mf 24 := j_mchk_ok (c1 := 1) (o1 := 1) (c2 := 3) (o2 := 21) (c3 := 3) (o3 := 22) (c4 := 3) (o4 := 23) (by decide +kernel) rfl
theorem jmf_25 : j_mf 25 := j_mchk_ok (c1 := 1) (o1 := 1) (c2 := 3) (o2 := 26) (c3 := 0) (o3 := 0) (c4 := 3) (o4 := 27) (by decide +kernel) rfl
theorem jmf_26 : j_mf 26 := j_mchk_ok (c1 := 1) (o1 := 2) (c2 := 3) (o2 := 29) (c3 := 3) (o3 := 30) (c4 := 3) (o4 := 31) (by decide +kernel) rfl
theorem jmf_27 : j_mf 27 := j_mchk_ok (c1 := 1) (o1 := 1) (c2 := 3) (o2 := 33) (c3 := 3) (o3 := 34) (c4 := 3) (o4 := 35) (by decide +kernel) rfl
theorem jmf_28 : j_mf 28 := j_mchk_ok (c1 := 1) (o1 := 1) (c2 := 3) (o2 := 37) (c3 := 3) (o3 := 38) (c4 := 3) (o4 := 39) (by decide +kernel) rfl
theorem jmf_29 : j_mf 29 := j_mchk_ok (c1 := 1) (o1 := 3) (c2 := 3) (o2 := 41) (c3 := 3) (o3 := 42) (c4 := 3) (o4 := 43) (by decide +kernel) rfl
theorem jmf_30 : j_mf 30 := j_mchk_ok (c1 := 1) (o1 := 10) (c2 := 3) (o2 := 45) (c3 := 3) (o3 := 46) (c4 := 3) (o4 := 47) (by decide +kernel) rfl
theorem jmf_31 : j_mf 31 := j_mchk_ok (c1 := 1) (o1 := 18) (c2 := 3) (o2 := 49) (c3 := 0) (o3 := 0) (c4 := 3) (o4 := 50) (by decide +kernel) rfl
theorem jmf_32 : j_mf 32 := j_mchk_ok (c1 := 1) (o1 := 18) (c2 := 3) (o2 := 52) (c3 := 0) (o3 := 0) (c4 := 3) (o4 := 53) (by decide +kernel) rfl
theorem jmf_33 : j_mf 33 := j_mchk_ok (c1 := 1) (o1 := 11) (c2 := 3) (o2 := 55) (c3 := 3) (o3 := 56) (c4 := 3) (o4 := 57) (by decide +kernel) rfl
theorem jmf_34 : j_mf 34 := j_mchk_ok (c1 := 1) (o1 := 2) (c2 := 3) (o2 := 59) (c3 := 3) (o3 := 60) (c4 := 3) (o4 := 61) (by decide +kernel) rfl
theorem jmf_35 : j_mf 35 := j_mchk_ok (c1 := 1) (o1 := 2) (c2 := 3) (o2 := 63) (c3 := 3) (o3 := 64) (c4 := 3) (o4 := 65) (by decide +kernel) rfl
theorem jmf_36 : j_mf 36 := j_mchk_ok (c1 := 1) (o1 := 3) (c2 := 3) (o2 := 68) (c3 := 0) (o3 := 1) (c4 := 3) (o4 := 69) (by decide +kernel) rfl
theorem jmf_37 : j_mf 37 := j_mchk_ok (c1 := 1) (o1 := 2) (c2 := 3) (o2 := 71) (c3 := 3) (o3 := 72) (c4 := 3) (o4 := 73) (by decide +kernel) rfl
theorem jmf_38 : j_mf 38 := j_mchk_ok (c1 := 1) (o1 := 2) (c2 := 3) (o2 := 76) (c3 := 0) (o3 := 0) (c4 := 3) (o4 := 77) (by decide +kernel) rfl
theorem jmf_39 : j_mf 39 := j_mchk_ok (c1 := 1) (o1 := 2) (c2 := 3) (o2 := 79) (c3 := 3) (o3 := 80) (c4 := 3) (o4 := 81) (by decide +kernel) rfl
theorem jmf_40 : j_mf 40 := j_mchk_ok (c1 := 1) (o1 := 2) (c2 := 3) (o2 := 83) (c3 := 0) (o3 := 0) (c4 := 3) (o4 := 84) (by decide +kernel) rfl
theorem jmf_41 : j_mf 41 := j_mchk_ok (c1 := 1) (o1 := 2) (c2 := 3) (o2 := 86) (c3 := 3) (o3 := 87) (c4 := 3) (o4 := 88) (by decide +kernel) rfl
theorem jmf_42 : j_mf 42 := j_mchk_ok (c1 := 1) (o1 := 2) (c2 := 3) (o2 := 90) (c3 := 3) (o3 := 91) (c4 := 3) (o4 := 92) (by decide +kernel) rfl
theorem jmf_43 : j_mf 43 := j_mchk_ok (c1 := 1) (o1 := 10) (c2 := 3) (o2 := 94) (c3 := 3) (o3 := 95) (c4 := 3) (o4 := 96) (by decide +kernel) rfl
theorem jmf_44 : j_mf 44 := j_mchk_ok (c1 := 1) (o1 := 11) (c2 := 3) (o2 := 98) (c3 := 3) (o3 := 99) (c4 := 3) (o4 := 100) (by decide +kernel) rfl
theorem jmf_45 : j_mf 45 := j_mchk_ok (c1 := 1) (o1 := 2) (c2 := 3) (o2 := 102) (c3 := 3) (o3 := 103) (c4 := 3) (o4 := 104) (by decide +kernel) rfl
theorem jmf_46 : j_mf 46 := j_mchk_ok (c1 := 1) (o1 := 3) (c2 := 3) (o2 := 107) (c3 := 0) (o3 := 2) (c4 := 3) (o4 := 108) (by decide +kernel) rfl
theorem jmf_47 : j_mf 47 := j_mchk_ok (c1 := 1) (o1 := 3) (c2 := 3) (o2 := 111) (c3 := 0) (o3 := 3) (c4 := 3) (o4 := 112) (by decide +kernel) rfl
theorem jmf_48 : j_mf 48 := j_mchk_ok (c1 := 1) (o1 := 3) (c2 := 3) (o2 := 115) (c3 := 0) (o3 := 4) (c4 := 3) (o4 := 116) (by decide +kernel) rfl
theorem jmf_49 : j_mf 49 := j_mchk_ok (c1 := 1) (o1 := 2) (c2 := 3) (o2 := 118) (c3 := 3) (o3 := 119) (c4 := 3) (o4 := 120) (by decide +kernel) rfl
theorem jmf_50 : j_mf 50 := j_mchk_ok (c1 := 1) (o1 := 10) (c2 := 3) (o2 := 126) (c3 := 3) (o3 := 127) (c4 := 3) (o4 := 128) (by decide +kernel) rfl
theorem jmf_51 : j_mf 51 := j_mchk_ok (c1 := 1) (o1 := 10) (c2 := 3) (o2 := 130) (c3 := 3) (o3 := 131) (c4 := 3) (o4 := 132) (by decide +kernel) rfl
theorem jmf_52 : j_mf 52 := j_mchk_ok (c1 := 1) (o1 := 10) (c2 := 3) (o2 := 134) (c3 := 3) (o3 := 135) (c4 := 3) (o4 := 136) (by decide +kernel) rfl
theorem jmf_53 : j_mf 53 := j_mchk_ok (c1 := 1) (o1 := 3) (c2 := 3) (o2 := 139) (c3 := 0) (o3 := 5) (c4 := 3) (o4 := 140) (by decide +kernel) rfl
theorem jmf_54 : j_mf 54 := j_mchk_ok (c1 := 1) (o1 := 2) (c2 := 3) (o2 := 142) (c3 := 3) (o3 := 143) (c4 := 3) (o4 := 144) (by decide +kernel) rfl
theorem jmf_55 : j_mf 55 := j_mchk_ok (c1 := 1) (o1 := 3) (c2 := 3) (o2 := 147) (c3 := 0) (o3 := 6) (c4 := 3) (o4 := 148) (by decide +kernel) rfl
theorem jmf_56 : j_mf 56 := j_mchk_ok (c1 := 1) (o1 := 2) (c2 := 3) (o2 := 150) (c3 := 3) (o3 := 151) (c4 := 3) (o4 := 152) (by decide +kernel) rfl
theorem jmf_57 : j_mf 57 := j_mchk_ok (c1 := 1) (o1 := 10) (c2 := 3) (o2 := 154) (c3 := 3) (o3 := 155) (c4 := 3) (o4 := 156) (by decide +kernel) rfl
theorem jmf_58 : j_mf 58 := j_mchk_ok (c1 := 1) (o1 := 3) (c2 := 3) (o2 := 159) (c3 := 0) (o3 := 7) (c4 := 3) (o4 := 160) (by decide +kernel) rfl
theorem jmf_59 : j_mf 59 := j_mchk_ok (c1 := 1) (o1 := 11) (c2 := 3) (o2 := 162) (c3 := 3) (o3 := 163) (c4 := 3) (o4 := 164) (by decide +kernel) rfl
theorem jmf_60 : j_mf 60 := j_mchk_ok (c1 := 1) (o1 := 3) (c2 := 3) (o2 := 168) (c3 := 0) (o3 := 8) (c4 := 3) (o4 := 169) (by decide +kernel) rfl
theorem jmf_61 : j_mf 61 := j_mchk_ok (c1 := 1) (o1 := 11) (c2 := 3) (o2 := 171) (c3 := 3) (o3 := 172) (c4 := 3) (o4 := 173) (by decide +kernel) rfl
theorem jmf_62 : j_mf 62 := j_mchk_ok (c1 := 1) (o1 := 3) (c2 := 3) (o2 := 176) (c3 := 0) (o3 := 9) (c4 := 3) (o4 := 177) (by decide +kernel) rfl
theorem jmf_63 : j_mf 63 := j_mchk_ok (c1 := 1) (o1 := 11) (c2 := 3) (o2 := 179) (c3 := 3) (o3 := 180) (c4 := 3) (o4 := 181) (by decide +kernel) rfl
theorem jmf_64 : j_mf 64 := j_mchk_ok (c1 := 1) (o1 := 3) (c2 := 3) (o2 := 184) (c3 := 0) (o3 := 10) (c4 := 3) (o4 := 185) (by decide +kernel) rfl
theorem jmf_65 : j_mf 65 := j_mchk_ok (c1 := 1) (o1 := 11) (c2 := 3) (o2 := 187) (c3 := 3) (o3 := 188) (c4 := 3) (o4 := 189) (by decide +kernel) rfl
theorem jmf_66 : j_mf 66 := j_mchk_ok (c1 := 1) (o1 := 3) (c2 := 3) (o2 := 192) (c3 := 0) (o3 := 11) (c4 := 3) (o4 := 193) (by decide +kernel) rfl
theorem jmf_67 : j_mf 67 := j_mchk_ok (c1 := 1) (o1 := 10) (c2 := 3) (o2 := 195) (c3 := 3) (o3 := 196) (c4 := 3) (o4 := 197) (by decide +kernel) rfl
theorem jmf_68 : j_mf 68 := j_mchk_ok (c1 := 1) (o1 := 2) (c2 := 3) (o2 := 200) (c3 := 3) (o3 := 201) (c4 := 3) (o4 := 202) (by decide +kernel) rfl
theorem jmf_69 : j_mf 69 := j_mchk_ok (c1 := 1) (o1 := 10) (c2 := 3) (o2 := 204) (c3 := 3) (o3 := 205) (c4 := 3) (o4 := 206) (by decide +kernel) rfl
theorem jmf_70 : j_mf 70 := j_mchk_ok (c1 := 1) (o1 := 11) (c2 := 3) (o2 := 208) (c3 := 3) (o3 := 209) (c4 := 3) (o4 := 210) (by decide +kernel) rfl
theorem jmf_71 : j_mf 71 := j_mchk_ok (c1 := 1) (o1 := 12) (c2 := 3) (o2 := 212) (c3 := 3) (o3 := 213) (c4 := 3) (o4 := 214) (by decide +kernel) rfl
theorem jmf_72 : j_mf 72 := j_mchk_ok (c1 := 1) (o1 := 13) (c2 := 3) (o2 := 216) (c3 := 3) (o3 := 217) (c4 := 3) (o4 := 218) (by decide +kernel) rfl
theorem jmf_73 : j_mf 73 := j_mchk_ok (c1 := 1) (o1 := 14) (c2 := 3) (o2 := 220) (c3 := 3) (o3 := 221) (c4 := 3) (o4 := 222) (by decide +kernel) rfl
theorem jmf_74 : j_mf 74 := j_mchk_ok (c1 := 1) (o1 := 1) (c2 := 3) (o2 := 224) (c3 := 3) (o3 := 225) (c4 := 3) (o4 := 226) (by decide +kernel) rfl
theorem jmf_75 : j_mf 75 := j_mchk_ok (c1 := 1) (o1 := 8) (c2 := 3) (o2 := 228) (c3 := 3) (o3 := 229) (c4 := 3) (o4 := 230) (by decide +kernel) rfl
theorem jmf_76 : j_mf 76 := j_mchk_ok (c1 := 1) (o1 := 8) (c2 := 3) (o2 := 237) (c3 := 0) (o3 := 12) (c4 := 3) (o4 := 238) (by decide +kernel) rfl
theorem jmf_77 : j_mf 77 := j_mchk_ok (c1 := 1) (o1 := 8) (c2 := 4) (o2 := 2) (c3 := 0) (o3 := 13) (c4 := 4) (o4 := 3) (by decide +kernel) rfl
theorem jmf_78 : j_mf 78 := j_mchk_ok (c1 := 1) (o1 := 12) (c2 := 4) (o2 := 5) (c3 := 0) (o3 := 0) (c4 := 4) (o4 := 6) (by decide +kernel) rfl
theorem jmf_79 : j_mf 79 := j_mchk_ok (c1 := 1) (o1 := 8) (c2 := 4) (o2 := 11) (c3 := 0) (o3 := 14) (c4 := 4) (o4 := 12) (by decide +kernel) rfl
theorem jmf_80 : j_mf 80 := j_mchk_ok (c1 := 1) (o1 := 12) (c2 := 4) (o2 := 19) (c3 := 4) (o3 := 20) (c4 := 4) (o4 := 21) (by decide +kernel) rfl
theorem jmf_81 : j_mf 81 := j_mchk_ok (c1 := 1) (o1 := 12) (c2 := 4) (o2 := 23) (c3 := 0) (o3 := 0) (c4 := 4) (o4 := 24) (by decide +kernel) rfl
theorem jmf_82 : j_mf 82 := j_mchk_ok (c1 := 1) (o1 := 12) (c2 := 4) (o2 := 26) (c3 := 4) (o3 := 27) (c4 := 4) (o4 := 28) (by decide +kernel) rfl
theorem jmf_83 : j_mf 83 := j_mchk_ok (c1 := 1) (o1 := 12) (c2 := 4) (o2 := 32) (c3 := 0) (o3 := 15) (c4 := 4) (o4 := 33) (by decide +kernel) rfl
theorem jmf_84 : j_mf 84 := j_mchk_ok (c1 := 1) (o1 := 12) (c2 := 4) (o2 := 36) (c3 := 4) (o3 := 37) (c4 := 4) (o4 := 38) (by decide +kernel) rfl
theorem jmf_85 : j_mf 85 := j_mchk_ok (c1 := 1) (o1 := 10) (c2 := 4) (o2 := 43) (c3 := 4) (o3 := 44) (c4 := 4) (o4 := 45) (by decide +kernel) rfl
theorem jmf_86 : j_mf 86 := j_mchk_ok (c1 := 1) (o1 := 11) (c2 := 4) (o2 := 47) (c3 := 4) (o3 := 48) (c4 := 4) (o4 := 49) (by decide +kernel) rfl
theorem jmf_87 : j_mf 87 := j_mchk_ok (c1 := 1) (o1 := 1) (c2 := 4) (o2 := 53) (c3 := 0) (o3 := 16) (c4 := 4) (o4 := 54) (by decide +kernel) rfl
theorem jmf_88 : j_mf 88 := j_mchk_ok (c1 := 1) (o1 := 13) (c2 := 4) (o2 := 56) (c3 := 4) (o3 := 57) (c4 := 4) (o4 := 58) (by decide +kernel) rfl
theorem jmf_89 : j_mf 89 := j_mchk_ok (c1 := 1) (o1 := 1) (c2 := 4) (o2 := 61) (c3 := 4) (o3 := 62) (c4 := 4) (o4 := 63) (by decide +kernel) rfl
theorem jmf_90 : j_mf 90 := j_mchk_ok (c1 := 1) (o1 := 1) (c2 := 4) (o2 := 65) (c3 := 4) (o3 := 66) (c4 := 4) (o4 := 67) (by decide +kernel) rfl
theorem jmf_91 : j_mf 91 := j_mchk_ok (c1 := 1) (o1 := 10) (c2 := 4) (o2 := 69) (c3 := 4) (o3 := 70) (c4 := 4) (o4 := 71) (by decide +kernel) rfl
theorem jmf_92 : j_mf 92 := j_mchk_ok (c1 := 1) (o1 := 1) (c2 := 4) (o2 := 73) (c3 := 4) (o3 := 74) (c4 := 4) (o4 := 75) (by decide +kernel) rfl
theorem jmf_93 : j_mf 93 := j_mchk_ok (c1 := 1) (o1 := 10) (c2 := 4) (o2 := 77) (c3 := 4) (o3 := 78) (c4 := 4) (o4 := 79) (by decide +kernel) rfl
theorem jmf_94 : j_mf 94 := j_mchk_ok (c1 := 1) (o1 := 1) (c2 := 4) (o2 := 81) (c3 := 4) (o3 := 82) (c4 := 4) (o4 := 83) (by decide +kernel) rfl
theorem jmf_95 : j_mf 95 := j_mchk_ok (c1 := 1) (o1 := 1) (c2 := 4) (o2 := 85) (c3 := 4) (o3 := 86) (c4 := 4) (o4 := 87) (by decide +kernel) rfl
theorem jmf_96 : j_mf 96 := j_mchk_ok (c1 := 1) (o1 := 20) (c2 := 4) (o2 := 89) (c3 := 0) (o3 := 0) (c4 := 4) (o4 := 90) (by decide +kernel) rfl
theorem jmf_97 : j_mf 97 := j_mchk_ok (c1 := 1) (o1 := 12) (c2 := 4) (o2 := 95) (c3 := 4) (o3 := 96) (c4 := 4) (o4 := 97) (by decide +kernel) rfl
theorem jmf_98 : j_mf 98 := j_mchk_ok (c1 := 1) (o1 := 1) (c2 := 4) (o2 := 99) (c3 := 0) (o3 := 0) (c4 := 4) (o4 := 100) (by decide +kernel) rfl
theorem jmf_99 : j_mf 99 := j_mchk_ok (c1 := 1) (o1 := 1) (c2 := 4) (o2 := 103) (c3 := 4) (o3 := 104) (c4 := 4) (o4 := 105) (by decide +kernel) rfl
theorem jmf_100 : j_mf 100 := j_mchk_ok (c1 := 1) (o1 := 10) (c2 := 4) (o2 := 107) (c3 := 4) (o3 := 108) (c4 := 4) (o4 := 109) (by decide +kernel) rfl
theorem jmf_101 : j_mf 101 := j_mchk_ok (c1 := 1) (o1 := 1) (c2 := 4) (o2 := 111) (c3 := 0) (o3 := 0) (c4 := 4) (o4 := 112) (by decide +kernel) rfl
theorem jmf_102 : j_mf 102 := j_mchk_ok (c1 := 1) (o1 := 1) (c2 := 4) (o2 := 114) (c3 := 4) (o3 := 115) (c4 := 4) (o4 := 116) (by decide +kernel) rfl
theorem jmf_103 : j_mf 103 := j_mchk_ok (c1 := 1) (o1 := 12) (c2 := 4) (o2 := 118) (c3 := 4) (o3 := 119) (c4 := 4) (o4 := 120) (by decide +kernel) rfl
theorem jmf_104 : j_mf 104 := j_mchk_ok (c1 := 1) (o1 := 1) (c2 := 4) (o2 := 123) (c3 := 4) (o3 := 124) (c4 := 4) (o4 := 125) (by decide +kernel) rfl
theorem jmf_105 : j_mf 105 := j_mchk_ok (c1 := 1) (o1 := 12) (c2 := 4) (o2 := 127) (c3 := 4) (o3 := 128) (c4 := 4) (o4 := 129) (by decide +kernel) rfl
theorem jmf_106 : j_mf 106 := j_mchk_ok (c1 := 1) (o1 := 12) (c2 := 4) (o2 := 132) (c3 := 0) (o3 := 17) (c4 := 4) (o4 := 133) (by decide +kernel) rfl
theorem jmf_107 : j_mf 107 := j_mchk_ok (c1 := 1) (o1 := 12) (c2 := 4) (o2 := 135) (c3 := 0) (o3 := 0) (c4 := 4) (o4 := 136) (by decide +kernel) rfl
theorem jmf_108 : j_mf 108 := j_mchk_ok (c1 := 1) (o1 := 10) (c2 := 4) (o2 := 138) (c3 := 4) (o3 := 139) (c4 := 4) (o4 := 140) (by decide +kernel) rfl
theorem jmf_109 : j_mf 109 := j_mchk_ok (c1 := 1) (o1 := 12) (c2 := 4) (o2 := 143) (c3 := 0) (o3 := 18) (c4 := 4) (o4 := 144) (by decide +kernel) rfl
theorem jmf_110 : j_mf 110 := j_mchk_ok (c1 := 1) (o1 := 12) (c2 := 4) (o2 := 147) (c3 := 0) (o3 := 19) (c4 := 4) (o4 := 148) (by decide +kernel) rfl
theorem jmf_111 : j_mf 111 := j_mchk_ok (c1 := 1) (o1 := 12) (c2 := 4) (o2 := 151) (c3 := 0) (o3 := 20) (c4 := 4) (o4 := 152) (by decide +kernel) rfl
theorem jmf_112 : j_mf 112 := j_mchk_ok (c1 := 1) (o1 := 12) (c2 := 4) (o2 := 155) (c3 := 0) (o3 := 21) (c4 := 4) (o4 := 156) (by decide +kernel) rfl
theorem jmf_113 : j_mf 113 := j_mchk_ok (c1 := 1) (o1 := 1) (c2 := 4) (o2 := 158) (c3 := 4) (o3 := 159) (c4 := 4) (o4 := 160) (by decide +kernel) rfl
theorem jmf_114 : j_mf 114 := j_mchk_ok (c1 := 1) (o1 := 1) (c2 := 4) (o2 := 162) (c3 := 4) (o3 := 163) (c4 := 4) (o4 := 164) (by decide +kernel) rfl
theorem jmf_115 : j_mf 115 := j_mchk_ok (c1 := 1) (o1 := 1) (c2 := 4) (o2 := 167) (c3 := 0) (o3 := 22) (c4 := 4) (o4 := 168) (by decide +kernel) rfl
theorem jmf_116 : j_mf 116 := j_mchk_ok (c1 := 1) (o1 := 1) (c2 := 4) (o2 := 171) (c3 := 0) (o3 := 23) (c4 := 4) (o4 := 172) (by decide +kernel) rfl
theorem jmf_117 : j_mf 117 := j_mchk_ok (c1 := 1) (o1 := 1) (c2 := 4) (o2 := 175) (c3 := 0) (o3 := 24) (c4 := 4) (o4 := 176) (by decide +kernel) rfl
theorem jmf_118 : j_mf 118 := j_mchk_ok (c1 := 1) (o1 := 1) (c2 := 4) (o2 := 178) (c3 := 4) (o3 := 179) (c4 := 4) (o4 := 180) (by decide +kernel) rfl
theorem jmf_119 : j_mf 119 := j_mchk_ok (c1 := 1) (o1 := 1) (c2 := 4) (o2 := 182) (c3 := 4) (o3 := 183) (c4 := 4) (o4 := 184) (by decide +kernel) rfl
theorem jmf_120 : j_mf 120 := j_mchk_ok (c1 := 1) (o1 := 1) (c2 := 4) (o2 := 186) (c3 := 4) (o3 := 187) (c4 := 4) (o4 := 188) (by decide +kernel) rfl
theorem jmf_121 : j_mf 121 := j_mchk_ok (c1 := 1) (o1 := 13) (c2 := 4) (o2 := 190) (c3 := 4) (o3 := 191) (c4 := 4) (o4 := 192) (by decide +kernel) rfl
theorem jmf_122 : j_mf 122 := j_mchk_ok (c1 := 1) (o1 := 1) (c2 := 4) (o2 := 194) (c3 := 4) (o3 := 195) (c4 := 4) (o4 := 196) (by decide +kernel) rfl
theorem jmf_123 : j_mf 123 := j_mchk_ok (c1 := 1) (o1 := 1) (c2 := 4) (o2 := 199) (c3 := 0) (o3 := 25) (c4 := 4) (o4 := 200) (by decide +kernel) rfl
theorem jmf_124 : j_mf 124 := j_mchk_ok (c1 := 1) (o1 := 1) (c2 := 4) (o2 := 202) (c3 := 4) (o3 := 203) (c4 := 4) (o4 := 204) (by decide +kernel) rfl
theorem jmf_125 : j_mf 125 := j_mchk_ok (c1 := 1) (o1 := 14) (c2 := 4) (o2 := 206) (c3 := 4) (o3 := 207) (c4 := 4) (o4 := 208) (by decide +kernel) rfl
theorem jmf_126 : j_mf 126 := j_mchk_ok (c1 := 1) (o1 := 14) (c2 := 4) (o2 := 211) (c3 := 0) (o3 := 26) (c4 := 4) (o4 := 212) (by decide +kernel) rfl
theorem jmf_127 : j_mf 127 := j_mchk_ok (c1 := 1) (o1 := 14) (c2 := 4) (o2 := 215) (c3 := 0) (o3 := 27) (c4 := 4) (o4 := 216) (by decide +kernel) rfl
theorem jmf_128 : j_mf 128 := j_mchk_ok (c1 := 1) (o1 := 14) (c2 := 4) (o2 := 221) (c3 := 0) (o3 := 28) (c4 := 4) (o4 := 222) (by decide +kernel) rfl
theorem jmf_129 : j_mf 129 := j_mchk_ok (c1 := 1) (o1 := 14) (c2 := 4) (o2 := 225) (c3 := 0) (o3 := 29) (c4 := 4) (o4 := 226) (by decide +kernel) rfl
theorem jmf_130 : j_mf 130 := j_mchk_ok (c1 := 1) (o1 := 14) (c2 := 4) (o2 := 230) (c3 := 0) (o3 := 30) (c4 := 4) (o4 := 231) (by decide +kernel) rfl
theorem jmf_131 : j_mf 131 := j_mchk_ok (c1 := 1) (o1 := 14) (c2 := 4) (o2 := 235) (c3 := 0) (o3 := 31) (c4 := 4) (o4 := 236) (by decide +kernel) rfl
theorem jmf_132 : j_mf 132 := j_mchk_ok (c1 := 1) (o1 := 14) (c2 := 4) (o2 := 239) (c3 := 0) (o3 := 32) (c4 := 5) (o4 := 0) (by decide +kernel) rfl
theorem jmf_133 : j_mf 133 := j_mchk_ok (c1 := 1) (o1 := 14) (c2 := 5) (o2 := 4) (c3 := 0) (o3 := 33) (c4 := 5) (o4 := 5) (by decide +kernel) rfl
theorem jmf_134 : j_mf 134 := j_mchk_ok (c1 := 1) (o1 := 14) (c2 := 5) (o2 := 8) (c3 := 0) (o3 := 34) (c4 := 5) (o4 := 9) (by decide +kernel) rfl
theorem jmf_135 : j_mf 135 := j_mchk_ok (c1 := 1) (o1 := 14) (c2 := 5) (o2 := 12) (c3 := 0) (o3 := 35) (c4 := 5) (o4 := 13) (by decide +kernel) rfl
theorem jmf_136 : j_mf 136 := j_mchk_ok (c1 := 1) (o1 := 14) (c2 := 5) (o2 := 16) (c3 := 0) (o3 := 36) (c4 := 5) (o4 := 17) (by decide +kernel) rfl
theorem jmf_137 : j_mf 137 := j_mchk_ok (c1 := 1) (o1 := 14) (c2 := 5) (o2 := 20) (c3 := 0) (o3 := 37) (c4 := 5) (o4 := 21) (by decide +kernel) rfl
theorem jmf_138 : j_mf 138 := Or.inl rfl
theorem jmf_139 : j_mf 139 := Or.inl rfl
theorem jmf_140 : j_mf 140 := j_mchk_ok (c1 := 1) (o1 := 1) (c2 := 5) (o2 := 29) (c3 := 5) (o3 := 30) (c4 := 5) (o4 := 31) (by decide +kernel) rfl
theorem jmf_141 : j_mf 141 := j_mchk_ok (c1 := 1) (o1 := 14) (c2 := 5) (o2 := 33) (c3 := 5) (o3 := 34) (c4 := 5) (o4 := 35) (by decide +kernel) rfl
theorem jmf_142 : j_mf 142 := j_mchk_ok (c1 := 1) (o1 := 1) (c2 := 5) (o2 := 37) (c3 := 5) (o3 := 38) (c4 := 5) (o4 := 39) (by decide +kernel) rfl
theorem jmf_143 : j_mf 143 := j_mchk_ok (c1 := 1) (o1 := 14) (c2 := 5) (o2 := 41) (c3 := 5) (o3 := 42) (c4 := 5) (o4 := 43) (by decide +kernel) rfl
theorem jmf_144 : j_mf 144 := j_mchk_ok (c1 := 1) (o1 := 1) (c2 := 5) (o2 := 47) (c3 := 5) (o3 := 48) (c4 := 5) (o4 := 49) (by decide +kernel) rfl
theorem jmf_145 : j_mf 145 := j_mchk_ok (c1 := 1) (o1 := 15) (c2 := 5) (o2 := 51) (c3 := 5) (o3 := 52) (c4 := 5) (o4 := 53) (by decide +kernel) rfl
theorem jmf_146 : j_mf 146 := j_mchk_ok (c1 := 1) (o1 := 12) (c2 := 5) (o2 := 55) (c3 := 5) (o3 := 56) (c4 := 5) (o4 := 57) (by decide +kernel) rfl
theorem jmf_147 : j_mf 147 := j_mchk_ok (c1 := 1) (o1 := 15) (c2 := 5) (o2 := 60) (c3 := 0) (o3 := 0) (c4 := 5) (o4 := 61) (by decide +kernel) rfl
theorem jmf_148 : j_mf 148 := Or.inl rfl
theorem jmf_149 : j_mf 149 := j_mchk_ok (c1 := 1) (o1 := 15) (c2 := 5) (o2 := 68) (c3 := 0) (o3 := 38) (c4 := 5) (o4 := 69) (by decide +kernel) rfl
theorem jmf_150 : j_mf 150 := j_mchk_ok (c1 := 1) (o1 := 15) (c2 := 5) (o2 := 71) (c3 := 0) (o3 := 0) (c4 := 5) (o4 := 72) (by decide +kernel) rfl
theorem jmf_151 : j_mf 151 := j_mchk_ok (c1 := 1) (o1 := 1) (c2 := 5) (o2 := 77) (c3 := 5) (o3 := 78) (c4 := 5) (o4 := 79) (by decide +kernel) rfl
theorem jmf_152 : j_mf 152 := j_mchk_ok (c1 := 1) (o1 := 1) (c2 := 5) (o2 := 82) (c3 := 0) (o3 := 0) (c4 := 5) (o4 := 83) (by decide +kernel) rfl
theorem jmf_153 : j_mf 153 := j_mchk_ok (c1 := 1) (o1 := 1) (c2 := 5) (o2 := 85) (c3 := 5) (o3 := 86) (c4 := 5) (o4 := 87) (by decide +kernel) rfl
theorem jmf_154 : j_mf 154 := j_mchk_ok (c1 := 1) (o1 := 1) (c2 := 5) (o2 := 89) (c3 := 5) (o3 := 90) (c4 := 5) (o4 := 91) (by decide +kernel) rfl
theorem jmf_155 : j_mf 155 := j_mchk_ok (c1 := 1) (o1 := 10) (c2 := 5) (o2 := 93) (c3 := 5) (o3 := 94) (c4 := 5) (o4 := 95) (by decide +kernel) rfl
theorem jmf_156 : j_mf 156 := j_mchk_ok (c1 := 1) (o1 := 11) (c2 := 5) (o2 := 97) (c3 := 5) (o3 := 98) (c4 := 5) (o4 := 99) (by decide +kernel) rfl
theorem jmf_157 : j_mf 157 := j_mchk_ok (c1 := 1) (o1 := 1) (c2 := 5) (o2 := 102) (c3 := 5) (o3 := 103) (c4 := 5) (o4 := 104) (by decide +kernel) rfl
theorem jmf_158 : j_mf 158 := j_mchk_ok (c1 := 1) (o1 := 10) (c2 := 5) (o2 := 106) (c3 := 5) (o3 := 107) (c4 := 5) (o4 := 108) (by decide +kernel) rfl
theorem jmf_159 : j_mf 159 := j_mchk_ok (c1 := 1) (o1 := 10) (c2 := 5) (o2 := 111) (c3 := 0) (o3 := 39) (c4 := 5) (o4 := 112) (by decide +kernel) rfl
theorem jmf_160 : j_mf 160 := j_mchk_ok (c1 := 1) (o1 := 1) (c2 := 5) (o2 := 114) (c3 := 5) (o3 := 115) (c4 := 5) (o4 := 116) (by decide +kernel) rfl
theorem jmf_161 : j_mf 161 := j_mchk_ok (c1 := 1) (o1 := 1) (c2 := 5) (o2 := 119) (c3 := 0) (o3 := 40) (c4 := 5) (o4 := 120) (by decide +kernel) rfl
theorem jmf_162 : j_mf 162 := j_mchk_ok (c1 := 1) (o1 := 10) (c2 := 5) (o2 := 122) (c3 := 5) (o3 := 123) (c4 := 5) (o4 := 124) (by decide +kernel) rfl
theorem jmf_163 : j_mf 163 := j_mchk_ok (c1 := 1) (o1 := 1) (c2 := 5) (o2 := 126) (c3 := 5) (o3 := 127) (c4 := 5) (o4 := 128) (by decide +kernel) rfl
theorem jmf_164 : j_mf 164 := j_mchk_ok (c1 := 1) (o1 := 1) (c2 := 5) (o2 := 130) (c3 := 5) (o3 := 131) (c4 := 5) (o4 := 132) (by decide +kernel) rfl
theorem jmf_165 : j_mf 165 := j_mchk_ok (c1 := 1) (o1 := 14) (c2 := 5) (o2 := 134) (c3 := 5) (o3 := 135) (c4 := 5) (o4 := 136) (by decide +kernel) rfl
theorem jmf_166 : j_mf 166 := j_mchk_ok (c1 := 1) (o1 := 1) (c2 := 5) (o2 := 138) (c3 := 5) (o3 := 139) (c4 := 5) (o4 := 140) (by decide +kernel) rfl
theorem jmf_167 : j_mf 167 := j_mchk_ok (c1 := 1) (o1 := 11) (c2 := 5) (o2 := 142) (c3 := 5) (o3 := 143) (c4 := 5) (o4 := 144) (by decide +kernel) rfl
theorem jmf_168 : j_mf 168 := j_mchk_ok (c1 := 1) (o1 := 1) (c2 := 5) (o2 := 146) (c3 := 5) (o3 := 147) (c4 := 5) (o4 := 148) (by decide +kernel) rfl
theorem jmf_169 : j_mf 169 := j_mchk_ok (c1 := 1) (o1 := 1) (c2 := 5) (o2 := 150) (c3 := 5) (o3 := 151) (c4 := 5) (o4 := 152) (by decide +kernel) rfl
theorem jmf_170 : j_mf 170 := j_mchk_ok (c1 := 1) (o1 := 1) (c2 := 5) (o2 := 155) (c3 := 0) (o3 := 41) (c4 := 5) (o4 := 156) (by decide +kernel) rfl
theorem jmf_171 : j_mf 171 := j_mchk_ok (c1 := 1) (o1 := 1) (c2 := 5) (o2 := 162) (c3 := 5) (o3 := 163) (c4 := 5) (o4 := 164) (by decide +kernel) rfl
theorem jmf_172 : j_mf 172 := j_mchk_ok (c1 := 1) (o1 := 9) (c2 := 5) (o2 := 166) (c3 := 5) (o3 := 167) (c4 := 5) (o4 := 168) (by decide +kernel) rfl
theorem jmf_173 : j_mf 173 := j_mchk_ok (c1 := 1) (o1 := 9) (c2 := 5) (o2 := 176) (c3 := 0) (o3 := 42) (c4 := 5) (o4 := 177) (by decide +kernel) rfl
theorem jmf_174 : j_mf 174 := j_mchk_ok (c1 := 1) (o1 := 9) (c2 := 5) (o2 := 180) (c3 := 0) (o3 := 43) (c4 := 5) (o4 := 181) (by decide +kernel) rfl
theorem jmf_175 : j_mf 175 := j_mchk_ok (c1 := 1) (o1 := 9) (c2 := 5) (o2 := 184) (c3 := 0) (o3 := 44) (c4 := 5) (o4 := 185) (by decide +kernel) rfl
theorem jmf_176 : j_mf 176 := j_mchk_ok (c1 := 1) (o1 := 9) (c2 := 5) (o2 := 189) (c3 := 0) (o3 := 45) (c4 := 5) (o4 := 190) (by decide +kernel) rfl
theorem jmf_177 : j_mf 177 := j_mchk_ok (c1 := 1) (o1 := 9) (c2 := 5) (o2 := 193) (c3 := 0) (o3 := 46) (c4 := 5) (o4 := 194) (by decide +kernel) rfl
theorem jmf_178 : j_mf 178 := j_mchk_ok (c1 := 1) (o1 := 9) (c2 := 5) (o2 := 198) (c3 := 0) (o3 := 47) (c4 := 5) (o4 := 199) (by decide +kernel) rfl
theorem jmf_179 : j_mf 179 := j_mchk_ok (c1 := 1) (o1 := 9) (c2 := 5) (o2 := 202) (c3 := 0) (o3 := 48) (c4 := 5) (o4 := 203) (by decide +kernel) rfl
theorem jmf_180 : j_mf 180 := j_mchk_ok (c1 := 1) (o1 := 9) (c2 := 5) (o2 := 206) (c3 := 0) (o3 := 49) (c4 := 5) (o4 := 207) (by decide +kernel) rfl
theorem jmf_181 : j_mf 181 := j_mchk_ok (c1 := 1) (o1 := 9) (c2 := 5) (o2 := 210) (c3 := 0) (o3 := 50) (c4 := 5) (o4 := 211) (by decide +kernel) rfl
theorem jmf_182 : j_mf 182 := j_mchk_ok (c1 := 1) (o1 := 9) (c2 := 5) (o2 := 214) (c3 := 0) (o3 := 51) (c4 := 5) (o4 := 215) (by decide +kernel) rfl
theorem jmf_183 : j_mf 183 := j_mchk_ok (c1 := 1) (o1 := 9) (c2 := 5) (o2 := 218) (c3 := 0) (o3 := 52) (c4 := 5) (o4 := 219) (by decide +kernel) rfl
theorem jmf_184 : j_mf 184 := j_mchk_ok (c1 := 1) (o1 := 9) (c2 := 5) (o2 := 222) (c3 := 0) (o3 := 53) (c4 := 5) (o4 := 223) (by decide +kernel) rfl
theorem jmf_185 : j_mf 185 := j_mchk_ok (c1 := 1) (o1 := 9) (c2 := 5) (o2 := 226) (c3 := 0) (o3 := 54) (c4 := 5) (o4 := 227) (by decide +kernel) rfl
theorem jmf_186 : j_mf 186 := j_mchk_ok (c1 := 1) (o1 := 9) (c2 := 5) (o2 := 231) (c3 := 0) (o3 := 55) (c4 := 5) (o4 := 232) (by decide +kernel) rfl
theorem jmf_187 : j_mf 187 := j_mchk_ok (c1 := 1) (o1 := 9) (c2 := 5) (o2 := 235) (c3 := 0) (o3 := 56) (c4 := 5) (o4 := 236) (by decide +kernel) rfl
theorem jmf_188 : j_mf 188 := j_mchk_ok (c1 := 1) (o1 := 9) (c2 := 5) (o2 := 238) (c3 := 5) (o3 := 239) (c4 := 6) (o4 := 0) (by decide +kernel) rfl
theorem jmf_189 : j_mf 189 := j_mchk_ok (c1 := 1) (o1 := 9) (c2 := 6) (o2 := 4) (c3 := 0) (o3 := 57) (c4 := 6) (o4 := 5) (by decide +kernel) rfl
theorem jmf_190 : j_mf 190 := j_mchk_ok (c1 := 1) (o1 := 9) (c2 := 6) (o2 := 8) (c3 := 0) (o3 := 58) (c4 := 6) (o4 := 9) (by decide +kernel) rfl
theorem jmf_191 : j_mf 191 := j_mchk_ok (c1 := 1) (o1 := 9) (c2 := 6) (o2 := 12) (c3 := 0) (o3 := 59) (c4 := 6) (o4 := 13) (by decide +kernel) rfl
theorem jmf_192 : j_mf 192 := j_mchk_ok (c1 := 1) (o1 := 9) (c2 := 6) (o2 := 19) (c3 := 0) (o3 := 60) (c4 := 6) (o4 := 20) (by decide +kernel) rfl
theorem jmf_193 : j_mf 193 := j_mchk_ok (c1 := 1) (o1 := 9) (c2 := 6) (o2 := 23) (c3 := 0) (o3 := 61) (c4 := 6) (o4 := 24) (by decide +kernel) rfl
theorem jmf_194 : j_mf 194 := j_mchk_ok (c1 := 1) (o1 := 9) (c2 := 6) (o2 := 26) (c3 := 0) (o3 := 0) (c4 := 6) (o4 := 27) (by decide +kernel) rfl
theorem jmf_195 : j_mf 195 := j_mchk_ok (c1 := 1) (o1 := 9) (c2 := 6) (o2 := 29) (c3 := 0) (o3 := 0) (c4 := 6) (o4 := 30) (by decide +kernel) rfl
theorem jmf_196 : j_mf 196 := Or.inl rfl
theorem jmf_197 : j_mf 197 := Or.inl rfl
theorem jmf_198 : j_mf 198 := Or.inl rfl
theorem jmf_199 : j_mf 199 := j_mchk_ok (c1 := 1) (o1 := 9) (c2 := 6) (o2 := 44) (c3 := 0) (o3 := 62) (c4 := 6) (o4 := 45) (by decide +kernel) rfl
theorem jmf_200 : j_mf 200 := j_mchk_ok (c1 := 1) (o1 := 1) (c2 := 6) (o2 := 48) (c3 := 6) (o3 := 49) (c4 := 6) (o4 := 50) (by decide +kernel) rfl
theorem jmf_201 : j_mf 201 := j_mchk_ok (c1 := 1) (o1 := 16) (c2 := 6) (o2 := 52) (c3 := 6) (o3 := 53) (c4 := 6) (o4 := 54) (by decide +kernel) rfl
theorem jmf_202 : j_mf 202 := j_mchk_ok (c1 := 1) (o1 := 16) (c2 := 6) (o2 := 57) (c3 := 0) (o3 := 63) (c4 := 6) (o4 := 58) (by decide +kernel) rfl
theorem jmf_203 : j_mf 203 := j_mchk_ok (c1 := 1) (o1 := 16) (c2 := 6) (o2 := 61) (c3 := 0) (o3 := 64) (c4 := 6) (o4 := 62) (by decide +kernel) rfl
theorem jmf_204 : j_mf 204 := j_mchk_ok (c1 := 1) (o1 := 16) (c2 := 6) (o2 := 64) (c3 := 0) (o3 := 0) (c4 := 6) (o4 := 65) (by decide +kernel) rfl
theorem jmf_205 : j_mf 205 := j_mchk_ok (c1 := 1) (o1 := 1) (c2 := 6) (o2 := 67) (c3 := 6) (o3 := 68) (c4 := 6) (o4 := 69) (by decide +kernel) rfl
theorem jmf_206 : j_mf 206 := j_mchk_ok (c1 := 1) (o1 := 1) (c2 := 6) (o2 := 71) (c3 := 6) (o3 := 72) (c4 := 6) (o4 := 73) (by decide +kernel) rfl
theorem jmf_207 : j_mf 207 := j_mchk_ok (c1 := 1) (o1 := 1) (c2 := 6) (o2 := 76) (c3 := 0) (o3 := 65) (c4 := 6) (o4 := 77) (by decide +kernel) rfl
theorem jmf_208 : j_mf 208 := j_mchk_ok (c1 := 1) (o1 := 12) (c2 := 6) (o2 := 79) (c3 := 6) (o3 := 80) (c4 := 6) (o4 := 81) (by decide +kernel) rfl
theorem jmf_209 : j_mf 209 := j_mchk_ok (c1 := 1) (o1 := 12) (c2 := 6) (o2 := 88) (c3 := 6) (o3 := 89) (c4 := 6) (o4 := 90) (by decide +kernel) rfl
theorem jmf_210 : j_mf 210 := j_mchk_ok (c1 := 1) (o1 := 1) (c2 := 6) (o2 := 92) (c3 := 6) (o3 := 93) (c4 := 6) (o4 := 94) (by decide +kernel) rfl
theorem jmf_211 : j_mf 211 := j_mchk_ok (c1 := 1) (o1 := 17) (c2 := 6) (o2 := 98) (c3 := 0) (o3 := 0) (c4 := 6) (o4 := 99) (by decide +kernel) rfl
theorem jmf_212 : j_mf 212 := j_mchk_ok (c1 := 1) (o1 := 17) (c2 := 7) (o2 := 158) (c3 := 7) (o3 := 159) (c4 := 7) (o4 := 160) (by decide +kernel) rfl
theorem jmf_213 : j_mf 213 := j_mchk_ok (c1 := 1) (o1 := 17) (c2 := 7) (o2 := 162) (c3 := 7) (o3 := 163) (c4 := 7) (o4 := 164) (by decide +kernel) rfl
theorem jmf_214 : j_mf 214 := j_mchk_ok (c1 := 1) (o1 := 17) (c2 := 7) (o2 := 166) (c3 := 7) (o3 := 167) (c4 := 7) (o4 := 168) (by decide +kernel) rfl
theorem jmf_215 : j_mf 215 := j_mchk_ok (c1 := 1) (o1 := 17) (c2 := 7) (o2 := 171) (c3 := 0) (o3 := 66) (c4 := 7) (o4 := 172) (by decide +kernel) rfl
theorem jmf_216 : j_mf 216 := j_mchk_ok (c1 := 1) (o1 := 17) (c2 := 7) (o2 := 175) (c3 := 0) (o3 := 67) (c4 := 7) (o4 := 176) (by decide +kernel) rfl
theorem jmf_217 : j_mf 217 := j_mchk_ok (c1 := 1) (o1 := 17) (c2 := 7) (o2 := 179) (c3 := 0) (o3 := 68) (c4 := 7) (o4 := 180) (by decide +kernel) rfl
theorem jmf_218 : j_mf 218 := j_mchk_ok (c1 := 1) (o1 := 17) (c2 := 7) (o2 := 183) (c3 := 0) (o3 := 69) (c4 := 7) (o4 := 184) (by decide +kernel) rfl
theorem jmf_219 : j_mf 219 := j_mchk_ok (c1 := 1) (o1 := 17) (c2 := 7) (o2 := 187) (c3 := 0) (o3 := 70) (c4 := 7) (o4 := 188) (by decide +kernel) rfl
theorem jmf_220 : j_mf 220 := j_mchk_ok (c1 := 1) (o1 := 17) (c2 := 7) (o2 := 191) (c3 := 0) (o3 := 71) (c4 := 7) (o4 := 192) (by decide +kernel) rfl
theorem jmf_221 : j_mf 221 := j_mchk_ok (c1 := 1) (o1 := 17) (c2 := 7) (o2 := 194) (c3 := 0) (o3 := 0) (c4 := 7) (o4 := 195) (by decide +kernel) rfl
theorem jmf_222 : j_mf 222 := j_mchk_ok (c1 := 1) (o1 := 17) (c2 := 7) (o2 := 198) (c3 := 0) (o3 := 72) (c4 := 7) (o4 := 199) (by decide +kernel) rfl
theorem jmf_223 : j_mf 223 := j_mchk_ok (c1 := 1) (o1 := 17) (c2 := 7) (o2 := 202) (c3 := 0) (o3 := 73) (c4 := 7) (o4 := 203) (by decide +kernel) rfl
theorem jmf_224 : j_mf 224 := j_mchk_ok (c1 := 1) (o1 := 17) (c2 := 7) (o2 := 206) (c3 := 0) (o3 := 74) (c4 := 7) (o4 := 207) (by decide +kernel) rfl
theorem jmf_225 : j_mf 225 := j_mchk_ok (c1 := 1) (o1 := 17) (c2 := 7) (o2 := 210) (c3 := 0) (o3 := 75) (c4 := 7) (o4 := 211) (by decide +kernel) rfl
theorem jmf_226 : j_mf 226 := j_mchk_ok (c1 := 1) (o1 := 17) (c2 := 7) (o2 := 214) (c3 := 0) (o3 := 76) (c4 := 7) (o4 := 215) (by decide +kernel) rfl
theorem jmf_227 : j_mf 227 := j_mchk_ok (c1 := 1) (o1 := 17) (c2 := 7) (o2 := 220) (c3 := 0) (o3 := 77) (c4 := 7) (o4 := 221) (by decide +kernel) rfl
theorem jmf_228 : j_mf 228 := j_mchk_ok (c1 := 1) (o1 := 17) (c2 := 7) (o2 := 224) (c3 := 0) (o3 := 78) (c4 := 7) (o4 := 225) (by decide +kernel) rfl
theorem jmf_229 : j_mf 229 := j_mchk_ok (c1 := 1) (o1 := 17) (c2 := 7) (o2 := 228) (c3 := 0) (o3 := 79) (c4 := 7) (o4 := 229) (by decide +kernel) rfl
theorem jmf_230 : j_mf 230 := j_mchk_ok (c1 := 1) (o1 := 17) (c2 := 7) (o2 := 232) (c3 := 0) (o3 := 80) (c4 := 7) (o4 := 233) (by decide +kernel) rfl
theorem jmf_231 : j_mf 231 := j_mchk_ok (c1 := 1) (o1 := 17) (c2 := 7) (o2 := 235) (c3 := 0) (o3 := 0) (c4 := 7) (o4 := 236) (by decide +kernel) rfl
theorem jmf_232 : j_mf 232 := j_mchk_ok (c1 := 1) (o1 := 17) (c2 := 7) (o2 := 238) (c3 := 0) (o3 := 0) (c4 := 7) (o4 := 239) (by decide +kernel) rfl
theorem jmf_233 : j_mf 233 := j_mchk_ok (c1 := 1) (o1 := 17) (c2 := 8) (o2 := 2) (c3 := 0) (o3 := 81) (c4 := 8) (o4 := 3) (by decide +kernel) rfl
theorem jmf_234 : j_mf 234 := j_mchk_ok (c1 := 1) (o1 := 17) (c2 := 8) (o2 := 6) (c3 := 0) (o3 := 82) (c4 := 8) (o4 := 7) (by decide +kernel) rfl
theorem jmf_235 : j_mf 235 := j_mchk_ok (c1 := 1) (o1 := 17) (c2 := 8) (o2 := 10) (c3 := 0) (o3 := 83) (c4 := 8) (o4 := 11) (by decide +kernel) rfl
theorem jmf_236 : j_mf 236 := j_mchk_ok (c1 := 1) (o1 := 17) (c2 := 8) (o2 := 13) (c3 := 0) (o3 := 0) (c4 := 8) (o4 := 14) (by decide +kernel) rfl
theorem jmf_237 : j_mf 237 := j_mchk_ok (c1 := 1) (o1 := 17) (c2 := 8) (o2 := 17) (c3 := 0) (o3 := 84) (c4 := 8) (o4 := 18) (by decide +kernel) rfl
theorem jmf_238 : j_mf 238 := j_mchk_ok (c1 := 1) (o1 := 17) (c2 := 8) (o2 := 21) (c3 := 0) (o3 := 85) (c4 := 8) (o4 := 22) (by decide +kernel) rfl
theorem jmf_239 : j_mf 239 := j_mchk_ok (c1 := 1) (o1 := 17) (c2 := 8) (o2 := 25) (c3 := 0) (o3 := 86) (c4 := 8) (o4 := 26) (by decide +kernel) rfl
theorem jmf_240 : j_mf 240 := j_mchk_ok (c1 := 1) (o1 := 17) (c2 := 8) (o2 := 29) (c3 := 0) (o3 := 87) (c4 := 8) (o4 := 30) (by decide +kernel) rfl
theorem jmf_241 : j_mf 241 := j_mchk_ok (c1 := 1) (o1 := 17) (c2 := 8) (o2 := 33) (c3 := 0) (o3 := 88) (c4 := 8) (o4 := 34) (by decide +kernel) rfl
theorem jmf_242 : j_mf 242 := j_mchk_ok (c1 := 1) (o1 := 17) (c2 := 8) (o2 := 37) (c3 := 0) (o3 := 89) (c4 := 8) (o4 := 38) (by decide +kernel) rfl
theorem jmf_243 : j_mf 243 := j_mchk_ok (c1 := 1) (o1 := 17) (c2 := 8) (o2 := 41) (c3 := 0) (o3 := 90) (c4 := 8) (o4 := 42) (by decide +kernel) rfl
theorem jmf_244 : j_mf 244 := j_mchk_ok (c1 := 1) (o1 := 17) (c2 := 8) (o2 := 45) (c3 := 0) (o3 := 91) (c4 := 8) (o4 := 46) (by decide +kernel) rfl
theorem jmf_245 : j_mf 245 := j_mchk_ok (c1 := 1) (o1 := 17) (c2 := 8) (o2 := 49) (c3 := 0) (o3 := 92) (c4 := 8) (o4 := 50) (by decide +kernel) rfl
theorem jmf_246 : j_mf 246 := j_mchk_ok (c1 := 1) (o1 := 17) (c2 := 8) (o2 := 53) (c3 := 0) (o3 := 93) (c4 := 8) (o4 := 54) (by decide +kernel) rfl
theorem jmf_247 : j_mf 247 := j_mchk_ok (c1 := 1) (o1 := 17) (c2 := 8) (o2 := 57) (c3 := 0) (o3 := 94) (c4 := 8) (o4 := 58) (by decide +kernel) rfl
theorem jmf_248 : j_mf 248 := j_mchk_ok (c1 := 1) (o1 := 17) (c2 := 8) (o2 := 61) (c3 := 0) (o3 := 95) (c4 := 8) (o4 := 62) (by decide +kernel) rfl
theorem jmf_249 : j_mf 249 := j_mchk_ok (c1 := 1) (o1 := 17) (c2 := 8) (o2 := 66) (c3 := 0) (o3 := 96) (c4 := 8) (o4 := 67) (by decide +kernel) rfl
theorem jmf_250 : j_mf 250 := j_mchk_ok (c1 := 1) (o1 := 17) (c2 := 8) (o2 := 70) (c3 := 0) (o3 := 97) (c4 := 8) (o4 := 71) (by decide +kernel) rfl
theorem jmf_251 : j_mf 251 := j_mchk_ok (c1 := 1) (o1 := 17) (c2 := 8) (o2 := 73) (c3 := 8) (o3 := 74) (c4 := 8) (o4 := 75) (by decide +kernel) rfl
theorem jmf_252 : j_mf 252 := j_mchk_ok (c1 := 1) (o1 := 17) (c2 := 8) (o2 := 78) (c3 := 0) (o3 := 98) (c4 := 8) (o4 := 79) (by decide +kernel) rfl
theorem jmf_253 : j_mf 253 := j_mchk_ok (c1 := 1) (o1 := 17) (c2 := 8) (o2 := 82) (c3 := 0) (o3 := 99) (c4 := 8) (o4 := 83) (by decide +kernel) rfl
theorem jmf_254 : j_mf 254 := j_mchk_ok (c1 := 1) (o1 := 17) (c2 := 8) (o2 := 86) (c3 := 0) (o3 := 100) (c4 := 8) (o4 := 87) (by decide +kernel) rfl
theorem jmf_255 : j_mf 255 := j_mchk_ok (c1 := 1) (o1 := 17) (c2 := 8) (o2 := 90) (c3 := 0) (o3 := 101) (c4 := 8) (o4 := 91) (by decide +kernel) rfl
theorem jmf_256 : j_mf 256 := j_mchk_ok (c1 := 1) (o1 := 17) (c2 := 8) (o2 := 94) (c3 := 0) (o3 := 102) (c4 := 8) (o4 := 95) (by decide +kernel) rfl
theorem jmf_257 : j_mf 257 := j_mchk_ok (c1 := 1) (o1 := 17) (c2 := 8) (o2 := 98) (c3 := 0) (o3 := 103) (c4 := 8) (o4 := 99) (by decide +kernel) rfl
theorem jmf_258 : j_mf 258 := j_mchk_ok (c1 := 1) (o1 := 17) (c2 := 8) (o2 := 102) (c3 := 0) (o3 := 104) (c4 := 8) (o4 := 103) (by decide +kernel) rfl
theorem jmf_259 : j_mf 259 := j_mchk_ok (c1 := 1) (o1 := 17) (c2 := 8) (o2 := 106) (c3 := 0) (o3 := 105) (c4 := 8) (o4 := 107) (by decide +kernel) rfl
theorem jmf_260 : j_mf 260 := j_mchk_ok (c1 := 1) (o1 := 17) (c2 := 8) (o2 := 110) (c3 := 0) (o3 := 106) (c4 := 8) (o4 := 111) (by decide +kernel) rfl
theorem jmf_261 : j_mf 261 := j_mchk_ok (c1 := 1) (o1 := 17) (c2 := 8) (o2 := 114) (c3 := 0) (o3 := 107) (c4 := 8) (o4 := 115) (by decide +kernel) rfl
theorem jmf_262 : j_mf 262 := j_mchk_ok (c1 := 1) (o1 := 17) (c2 := 8) (o2 := 118) (c3 := 0) (o3 := 108) (c4 := 8) (o4 := 119) (by decide +kernel) rfl
theorem jmf_263 : j_mf 263 := j_mchk_ok (c1 := 1) (o1 := 17) (c2 := 8) (o2 := 122) (c3 := 0) (o3 := 109) (c4 := 8) (o4 := 123) (by decide +kernel) rfl
theorem jmf_264 : j_mf 264 := j_mchk_ok (c1 := 1) (o1 := 17) (c2 := 8) (o2 := 125) (c3 := 8) (o3 := 126) (c4 := 8) (o4 := 127) (by decide +kernel) rfl
theorem jmf_265 : j_mf 265 := j_mchk_ok (c1 := 1) (o1 := 17) (c2 := 8) (o2 := 129) (c3 := 8) (o3 := 130) (c4 := 8) (o4 := 131) (by decide +kernel) rfl
theorem jmf_266 : j_mf 266 := j_mchk_ok (c1 := 1) (o1 := 17) (c2 := 8) (o2 := 133) (c3 := 8) (o3 := 134) (c4 := 8) (o4 := 135) (by decide +kernel) rfl
theorem jmf_267 : j_mf 267 := j_mchk_ok (c1 := 1) (o1 := 17) (c2 := 8) (o2 := 138) (c3 := 0) (o3 := 110) (c4 := 8) (o4 := 139) (by decide +kernel) rfl
theorem jmf_268 : j_mf 268 := j_mchk_ok (c1 := 1) (o1 := 17) (c2 := 8) (o2 := 143) (c3 := 8) (o3 := 144) (c4 := 8) (o4 := 145) (by decide +kernel) rfl
theorem jmf_269 : j_mf 269 := j_mchk_ok (c1 := 1) (o1 := 17) (c2 := 8) (o2 := 147) (c3 := 0) (o3 := 0) (c4 := 8) (o4 := 148) (by decide +kernel) rfl
theorem jmf_270 : j_mf 270 := j_mchk_ok (c1 := 1) (o1 := 17) (c2 := 8) (o2 := 150) (c3 := 8) (o3 := 151) (c4 := 8) (o4 := 152) (by decide +kernel) rfl
theorem jmf_271 : j_mf 271 := j_mchk_ok (c1 := 1) (o1 := 17) (c2 := 8) (o2 := 155) (c3 := 0) (o3 := 111) (c4 := 8) (o4 := 156) (by decide +kernel) rfl
theorem jmf_272 : j_mf 272 := j_mchk_ok (c1 := 1) (o1 := 17) (c2 := 8) (o2 := 159) (c3 := 0) (o3 := 112) (c4 := 8) (o4 := 160) (by decide +kernel) rfl
theorem jmf_273 : j_mf 273 := j_mchk_ok (c1 := 1) (o1 := 17) (c2 := 8) (o2 := 162) (c3 := 0) (o3 := 0) (c4 := 8) (o4 := 163) (by decide +kernel) rfl
theorem jmf_274 : j_mf 274 := j_mchk_ok (c1 := 1) (o1 := 17) (c2 := 8) (o2 := 166) (c3 := 0) (o3 := 113) (c4 := 8) (o4 := 167) (by decide +kernel) rfl
theorem jmf_275 : j_mf 275 := j_mchk_ok (c1 := 1) (o1 := 17) (c2 := 8) (o2 := 169) (c3 := 8) (o3 := 170) (c4 := 8) (o4 := 171) (by decide +kernel) rfl
theorem jmf_276 : j_mf 276 := j_mchk_ok (c1 := 1) (o1 := 17) (c2 := 8) (o2 := 174) (c3 := 0) (o3 := 114) (c4 := 8) (o4 := 175) (by decide +kernel) rfl
theorem jmf_277 : j_mf 277 := j_mchk_ok (c1 := 1) (o1 := 17) (c2 := 8) (o2 := 178) (c3 := 0) (o3 := 115) (c4 := 8) (o4 := 179) (by decide +kernel) rfl
theorem jmf_278 : j_mf 278 := j_mchk_ok (c1 := 1) (o1 := 17) (c2 := 8) (o2 := 181) (c3 := 8) (o3 := 182) (c4 := 8) (o4 := 183) (by decide +kernel) rfl
theorem jmf_279 : j_mf 279 := j_mchk_ok (c1 := 1) (o1 := 17) (c2 := 8) (o2 := 185) (c3 := 8) (o3 := 186) (c4 := 8) (o4 := 187) (by decide +kernel) rfl
theorem jmf_280 : j_mf 280 := j_mchk_ok (c1 := 1) (o1 := 17) (c2 := 8) (o2 := 190) (c3 := 0) (o3 := 116) (c4 := 8) (o4 := 191) (by decide +kernel) rfl
theorem jmf_281 : j_mf 281 := j_mchk_ok (c1 := 1) (o1 := 17) (c2 := 8) (o2 := 194) (c3 := 0) (o3 := 117) (c4 := 8) (o4 := 195) (by decide +kernel) rfl
theorem jmf_282 : j_mf 282 := j_mchk_ok (c1 := 1) (o1 := 17) (c2 := 8) (o2 := 198) (c3 := 0) (o3 := 118) (c4 := 8) (o4 := 199) (by decide +kernel) rfl
theorem jmf_283 : j_mf 283 := j_mchk_ok (c1 := 1) (o1 := 17) (c2 := 8) (o2 := 202) (c3 := 0) (o3 := 119) (c4 := 8) (o4 := 203) (by decide +kernel) rfl
theorem jmf_284 : j_mf 284 := j_mchk_ok (c1 := 1) (o1 := 17) (c2 := 8) (o2 := 205) (c3 := 8) (o3 := 206) (c4 := 8) (o4 := 207) (by decide +kernel) rfl
theorem jmf_285 : j_mf 285 := j_mchk_ok (c1 := 1) (o1 := 17) (c2 := 8) (o2 := 209) (c3 := 8) (o3 := 210) (c4 := 8) (o4 := 211) (by decide +kernel) rfl
theorem jmf_286 : j_mf 286 := j_mchk_ok (c1 := 1) (o1 := 17) (c2 := 8) (o2 := 213) (c3 := 8) (o3 := 214) (c4 := 8) (o4 := 215) (by decide +kernel) rfl
theorem jmf_287 : j_mf 287 := j_mchk_ok (c1 := 1) (o1 := 17) (c2 := 8) (o2 := 218) (c3 := 0) (o3 := 120) (c4 := 8) (o4 := 219) (by decide +kernel) rfl
theorem jmf_288 : j_mf 288 := j_mchk_ok (c1 := 1) (o1 := 17) (c2 := 8) (o2 := 222) (c3 := 0) (o3 := 121) (c4 := 8) (o4 := 223) (by decide +kernel) rfl
theorem jmf_289 : j_mf 289 := j_mchk_ok (c1 := 1) (o1 := 17) (c2 := 8) (o2 := 227) (c3 := 0) (o3 := 122) (c4 := 8) (o4 := 228) (by decide +kernel) rfl
theorem jmf_290 : j_mf 290 := j_mchk_ok (c1 := 1) (o1 := 17) (c2 := 8) (o2 := 231) (c3 := 0) (o3 := 123) (c4 := 8) (o4 := 232) (by decide +kernel) rfl
theorem jmf_291 : j_mf 291 := j_mchk_ok (c1 := 1) (o1 := 17) (c2 := 8) (o2 := 234) (c3 := 8) (o3 := 235) (c4 := 8) (o4 := 236) (by decide +kernel) rfl
theorem jmf_292 : j_mf 292 := j_mchk_ok (c1 := 1) (o1 := 17) (c2 := 8) (o2 := 238) (c3 := 8) (o3 := 239) (c4 := 9) (o4 := 0) (by decide +kernel) rfl
theorem jmf_293 : j_mf 293 := j_mchk_ok (c1 := 1) (o1 := 17) (c2 := 9) (o2 := 2) (c3 := 9) (o3 := 3) (c4 := 9) (o4 := 4) (by decide +kernel) rfl
theorem jmf_294 : j_mf 294 := j_mchk_ok (c1 := 1) (o1 := 17) (c2 := 9) (o2 := 7) (c3 := 9) (o3 := 8) (c4 := 9) (o4 := 9) (by decide +kernel) rfl
theorem jmf_295 : j_mf 295 := j_mchk_ok (c1 := 1) (o1 := 17) (c2 := 9) (o2 := 13) (c3 := 0) (o3 := 124) (c4 := 9) (o4 := 14) (by decide +kernel) rfl
theorem jmf_296 : j_mf 296 := j_mchk_ok (c1 := 1) (o1 := 17) (c2 := 9) (o2 := 17) (c3 := 0) (o3 := 125) (c4 := 9) (o4 := 18) (by decide +kernel) rfl
theorem jmf_297 : j_mf 297 := j_mchk_ok (c1 := 1) (o1 := 17) (c2 := 9) (o2 := 20) (c3 := 9) (o3 := 21) (c4 := 9) (o4 := 22) (by decide +kernel) rfl
theorem jmf_298 : j_mf 298 := j_mchk_ok (c1 := 1) (o1 := 17) (c2 := 9) (o2 := 24) (c3 := 9) (o3 := 25) (c4 := 9) (o4 := 26) (by decide +kernel) rfl
theorem jmf_299 : j_mf 299 := j_mchk_ok (c1 := 1) (o1 := 17) (c2 := 9) (o2 := 29) (c3 := 0) (o3 := 126) (c4 := 9) (o4 := 30) (by decide +kernel) rfl
theorem jmf_300 : j_mf 300 := j_mchk_ok (c1 := 1) (o1 := 17) (c2 := 9) (o2 := 33) (c3 := 0) (o3 := 127) (c4 := 9) (o4 := 34) (by decide +kernel) rfl
theorem jmf_301 : j_mf 301 := j_mchk_ok (c1 := 1) (o1 := 17) (c2 := 9) (o2 := 36) (c3 := 9) (o3 := 37) (c4 := 9) (o4 := 38) (by decide +kernel) rfl
theorem jmf_302 : j_mf 302 := j_mchk_ok (c1 := 1) (o1 := 17) (c2 := 9) (o2 := 41) (c3 := 0) (o3 := 128) (c4 := 9) (o4 := 42) (by decide +kernel) rfl
theorem jmf_303 : j_mf 303 := j_mchk_ok (c1 := 1) (o1 := 17) (c2 := 9) (o2 := 45) (c3 := 0) (o3 := 129) (c4 := 9) (o4 := 46) (by decide +kernel) rfl
theorem jmf_304 : j_mf 304 := j_mchk_ok (c1 := 1) (o1 := 17) (c2 := 9) (o2 := 49) (c3 := 0) (o3 := 130) (c4 := 9) (o4 := 50) (by decide +kernel) rfl
theorem jmf_305 : j_mf 305 := j_mchk_ok (c1 := 1) (o1 := 17) (c2 := 9) (o2 := 52) (c3 := 0) (o3 := 0) (c4 := 9) (o4 := 53) (by decide +kernel) rfl
theorem jmf_306 : j_mf 306 := j_mchk_ok (c1 := 1) (o1 := 17) (c2 := 9) (o2 := 56) (c3 := 0) (o3 := 131) (c4 := 9) (o4 := 57) (by decide +kernel) rfl
theorem jmf_307 : j_mf 307 := j_mchk_ok (c1 := 1) (o1 := 17) (c2 := 9) (o2 := 60) (c3 := 0) (o3 := 132) (c4 := 9) (o4 := 61) (by decide +kernel) rfl
theorem jmf_308 : j_mf 308 := j_mchk_ok (c1 := 1) (o1 := 17) (c2 := 9) (o2 := 63) (c3 := 9) (o3 := 64) (c4 := 9) (o4 := 65) (by decide +kernel) rfl
theorem jmf_309 : j_mf 309 := j_mchk_ok (c1 := 1) (o1 := 17) (c2 := 9) (o2 := 67) (c3 := 0) (o3 := 0) (c4 := 9) (o4 := 68) (by decide +kernel) rfl
theorem jmf_310 : j_mf 310 := j_mchk_ok (c1 := 1) (o1 := 17) (c2 := 9) (o2 := 70) (c3 := 9) (o3 := 71) (c4 := 9) (o4 := 72) (by decide +kernel) rfl
theorem jmf_311 : j_mf 311 := j_mchk_ok (c1 := 1) (o1 := 17) (c2 := 9) (o2 := 74) (c3 := 9) (o3 := 75) (c4 := 9) (o4 := 76) (by decide +kernel) rfl
theorem jmf_312 : j_mf 312 := j_mchk_ok (c1 := 1) (o1 := 17) (c2 := 9) (o2 := 79) (c3 := 0) (o3 := 133) (c4 := 9) (o4 := 80) (by decide +kernel) rfl
theorem jmf_313 : j_mf 313 := j_mchk_ok (c1 := 1) (o1 := 17) (c2 := 9) (o2 := 83) (c3 := 0) (o3 := 134) (c4 := 9) (o4 := 84) (by decide +kernel) rfl
theorem jmf_314 : j_mf 314 := j_mchk_ok (c1 := 1) (o1 := 17) (c2 := 9) (o2 := 86) (c3 := 9) (o3 := 87) (c4 := 9) (o4 := 88) (by decide +kernel) rfl
theorem jmf_315 : j_mf 315 := j_mchk_ok (c1 := 1) (o1 := 17) (c2 := 9) (o2 := 91) (c3 := 0) (o3 := 135) (c4 := 9) (o4 := 92) (by decide +kernel) rfl
theorem jmf_316 : j_mf 316 := j_mchk_ok (c1 := 1) (o1 := 17) (c2 := 9) (o2 := 94) (c3 := 9) (o3 := 95) (c4 := 9) (o4 := 96) (by decide +kernel) rfl
theorem jmf_317 : j_mf 317 := j_mchk_ok (c1 := 1) (o1 := 17) (c2 := 9) (o2 := 99) (c3 := 0) (o3 := 136) (c4 := 9) (o4 := 100) (by decide +kernel) rfl
theorem jmf_318 : j_mf 318 := j_mchk_ok (c1 := 1) (o1 := 17) (c2 := 9) (o2 := 103) (c3 := 0) (o3 := 137) (c4 := 9) (o4 := 104) (by decide +kernel) rfl
theorem jmf_319 : j_mf 319 := j_mchk_ok (c1 := 1) (o1 := 17) (c2 := 9) (o2 := 106) (c3 := 9) (o3 := 107) (c4 := 9) (o4 := 108) (by decide +kernel) rfl
theorem jmf_320 : j_mf 320 := j_mchk_ok (c1 := 1) (o1 := 17) (c2 := 9) (o2 := 111) (c3 := 9) (o3 := 112) (c4 := 9) (o4 := 113) (by decide +kernel) rfl
theorem jmf_321 : j_mf 321 := j_mchk_ok (c1 := 1) (o1 := 17) (c2 := 9) (o2 := 115) (c3 := 9) (o3 := 116) (c4 := 9) (o4 := 117) (by decide +kernel) rfl
theorem jmf_322 : j_mf 322 := j_mchk_ok (c1 := 1) (o1 := 17) (c2 := 9) (o2 := 119) (c3 := 9) (o3 := 120) (c4 := 9) (o4 := 121) (by decide +kernel) rfl
theorem jmf_323 : j_mf 323 := j_mchk_ok (c1 := 1) (o1 := 17) (c2 := 9) (o2 := 123) (c3 := 9) (o3 := 124) (c4 := 9) (o4 := 125) (by decide +kernel) rfl
theorem jmf_324 : j_mf 324 := j_mchk_ok (c1 := 1) (o1 := 17) (c2 := 9) (o2 := 131) (c3 := 9) (o3 := 132) (c4 := 9) (o4 := 133) (by decide +kernel) rfl
theorem jmf_325 : j_mf 325 := j_mchk_ok (c1 := 1) (o1 := 17) (c2 := 9) (o2 := 136) (c3 := 0) (o3 := 138) (c4 := 9) (o4 := 137) (by decide +kernel) rfl
theorem jmf_326 : j_mf 326 := j_mchk_ok (c1 := 1) (o1 := 17) (c2 := 9) (o2 := 140) (c3 := 0) (o3 := 139) (c4 := 9) (o4 := 141) (by decide +kernel) rfl
theorem jmf_327 : j_mf 327 := j_mchk_ok (c1 := 1) (o1 := 17) (c2 := 9) (o2 := 144) (c3 := 0) (o3 := 140) (c4 := 9) (o4 := 145) (by decide +kernel) rfl
theorem jmf_328 : j_mf 328 := j_mchk_ok (c1 := 1) (o1 := 17) (c2 := 9) (o2 := 148) (c3 := 0) (o3 := 141) (c4 := 9) (o4 := 149) (by decide +kernel) rfl
theorem jmf_329 : j_mf 329 := j_mchk_ok (c1 := 1) (o1 := 17) (c2 := 9) (o2 := 152) (c3 := 0) (o3 := 142) (c4 := 9) (o4 := 153) (by decide +kernel) rfl
theorem jmf_330 : j_mf 330 := j_mchk_ok (c1 := 1) (o1 := 17) (c2 := 9) (o2 := 156) (c3 := 0) (o3 := 143) (c4 := 9) (o4 := 157) (by decide +kernel) rfl
theorem jmf_331 : j_mf 331 := j_mchk_ok (c1 := 1) (o1 := 17) (c2 := 9) (o2 := 160) (c3 := 0) (o3 := 144) (c4 := 9) (o4 := 161) (by decide +kernel) rfl
theorem jmf_332 : j_mf 332 := j_mchk_ok (c1 := 1) (o1 := 17) (c2 := 9) (o2 := 164) (c3 := 0) (o3 := 145) (c4 := 9) (o4 := 165) (by decide +kernel) rfl
theorem jmf_333 : j_mf 333 := j_mchk_ok (c1 := 1) (o1 := 17) (c2 := 9) (o2 := 168) (c3 := 0) (o3 := 146) (c4 := 9) (o4 := 169) (by decide +kernel) rfl
theorem jmf_334 : j_mf 334 := j_mchk_ok (c1 := 1) (o1 := 17) (c2 := 9) (o2 := 172) (c3 := 0) (o3 := 147) (c4 := 9) (o4 := 173) (by decide +kernel) rfl
theorem jmf_335 : j_mf 335 := j_mchk_ok (c1 := 1) (o1 := 17) (c2 := 9) (o2 := 176) (c3 := 0) (o3 := 148) (c4 := 9) (o4 := 177) (by decide +kernel) rfl
theorem jmf_336 : j_mf 336 := j_mchk_ok (c1 := 1) (o1 := 17) (c2 := 9) (o2 := 180) (c3 := 0) (o3 := 149) (c4 := 9) (o4 := 181) (by decide +kernel) rfl
theorem jmf_337 : j_mf 337 := j_mchk_ok (c1 := 1) (o1 := 17) (c2 := 9) (o2 := 184) (c3 := 0) (o3 := 150) (c4 := 9) (o4 := 185) (by decide +kernel) rfl
theorem jmf_338 : j_mf 338 := j_mchk_ok (c1 := 1) (o1 := 17) (c2 := 9) (o2 := 188) (c3 := 0) (o3 := 151) (c4 := 9) (o4 := 189) (by decide +kernel) rfl
theorem jmf_339 : j_mf 339 := j_mchk_ok (c1 := 1) (o1 := 17) (c2 := 9) (o2 := 191) (c3 := 0) (o3 := 0) (c4 := 9) (o4 := 192) (by decide +kernel) rfl
theorem jmf_340 : j_mf 340 := j_mchk_ok (c1 := 1) (o1 := 17) (c2 := 9) (o2 := 195) (c3 := 0) (o3 := 152) (c4 := 9) (o4 := 196) (by decide +kernel) rfl
theorem jmf_341 : j_mf 341 := j_mchk_ok (c1 := 1) (o1 := 17) (c2 := 9) (o2 := 199) (c3 := 0) (o3 := 153) (c4 := 9) (o4 := 200) (by decide +kernel) rfl
theorem jmf_342 : j_mf 342 := j_mchk_ok (c1 := 1) (o1 := 17) (c2 := 9) (o2 := 203) (c3 := 0) (o3 := 154) (c4 := 9) (o4 := 204) (by decide +kernel) rfl
theorem jmf_343 : j_mf 343 := j_mchk_ok (c1 := 1) (o1 := 17) (c2 := 9) (o2 := 207) (c3 := 0) (o3 := 155) (c4 := 9) (o4 := 208) (by decide +kernel) rfl
theorem jmf_344 : j_mf 344 := j_mchk_ok (c1 := 1) (o1 := 17) (c2 := 9) (o2 := 211) (c3 := 0) (o3 := 156) (c4 := 9) (o4 := 212) (by decide +kernel) rfl
theorem jmf_345 : j_mf 345 := j_mchk_ok (c1 := 1) (o1 := 17) (c2 := 9) (o2 := 216) (c3 := 0) (o3 := 157) (c4 := 9) (o4 := 217) (by decide +kernel) rfl
theorem jmf_346 : j_mf 346 := j_mchk_ok (c1 := 1) (o1 := 17) (c2 := 9) (o2 := 220) (c3 := 0) (o3 := 158) (c4 := 9) (o4 := 221) (by decide +kernel) rfl
theorem jmf_347 : j_mf 347 := j_mchk_ok (c1 := 1) (o1 := 17) (c2 := 9) (o2 := 224) (c3 := 0) (o3 := 159) (c4 := 9) (o4 := 225) (by decide +kernel) rfl
theorem jmf_348 : j_mf 348 := j_mchk_ok (c1 := 1) (o1 := 17) (c2 := 9) (o2 := 228) (c3 := 0) (o3 := 160) (c4 := 9) (o4 := 229) (by decide +kernel) rfl
theorem jmf_349 : j_mf 349 := j_mchk_ok (c1 := 1) (o1 := 17) (c2 := 9) (o2 := 231) (c3 := 0) (o3 := 0) (c4 := 9) (o4 := 232) (by decide +kernel) rfl
theorem jmf_350 : j_mf 350 := j_mchk_ok (c1 := 1) (o1 := 17) (c2 := 9) (o2 := 237) (c3 := 0) (o3 := 161) (c4 := 9) (o4 := 238) (by decide +kernel) rfl
theorem jmf_351 : j_mf 351 := j_mchk_ok (c1 := 1) (o1 := 17) (c2 := 10) (o2 := 1) (c3 := 0) (o3 := 162) (c4 := 10) (o4 := 2) (by decide +kernel) rfl
theorem jmf_352 : j_mf 352 := j_mchk_ok (c1 := 1) (o1 := 17) (c2 := 10) (o2 := 4) (c3 := 0) (o3 := 0) (c4 := 10) (o4 := 5) (by decide +kernel) rfl
theorem jmf_353 : j_mf 353 := j_mchk_ok (c1 := 1) (o1 := 17) (c2 := 10) (o2 := 8) (c3 := 0) (o3 := 163) (c4 := 10) (o4 := 9) (by decide +kernel) rfl
theorem jmf_354 : j_mf 354 := j_mchk_ok (c1 := 1) (o1 := 17) (c2 := 10) (o2 := 11) (c3 := 10) (o3 := 12) (c4 := 10) (o4 := 13) (by decide +kernel) rfl
theorem jmf_355 : j_mf 355 := j_mchk_ok (c1 := 1) (o1 := 17) (c2 := 10) (o2 := 15) (c3 := 0) (o3 := 0) (c4 := 10) (o4 := 16) (by decide +kernel) rfl
theorem jmf_356 : j_mf 356 := j_mchk_ok (c1 := 1) (o1 := 17) (c2 := 10) (o2 := 18) (c3 := 10) (o3 := 19) (c4 := 10) (o4 := 20) (by decide +kernel) rfl
theorem jmf_357 : j_mf 357 := j_mchk_ok (c1 := 1) (o1 := 17) (c2 := 10) (o2 := 22) (c3 := 10) (o3 := 23) (c4 := 10) (o4 := 24) (by decide +kernel) rfl
theorem jmf_358 : j_mf 358 := j_mchk_ok (c1 := 1) (o1 := 17) (c2 := 10) (o2 := 27) (c3 := 0) (o3 := 164) (c4 := 10) (o4 := 28) (by decide +kernel) rfl
theorem jmf_359 : j_mf 359 := j_mchk_ok (c1 := 1) (o1 := 17) (c2 := 10) (o2 := 30) (c3 := 10) (o3 := 31) (c4 := 10) (o4 := 32) (by decide +kernel) rfl
theorem jmf_360 : j_mf 360 := Or.inl rfl
theorem jmfs_0 : j_from (fun k (_ : Unit) => j_mf k) 0 [(), (), (), (), (), (), (), (), (), (), (), (), (), (), (), (), (), (), (), ()] := j_from_cons jmf_0 ( j_from_cons jmf_1 ( j_from_cons jmf_2 ( j_from_cons jmf_3 ( j_from_cons jmf_4 ( j_from_cons jmf_5 ( j_from_cons jmf_6 ( j_from_cons jmf_7 ( j_from_cons jmf_8 ( j_from_cons jmf_9 ( j_from_cons jmf_10 ( j_from_cons jmf_11 ( j_from_cons jmf_12 ( j_from_cons jmf_13 ( j_from_cons jmf_14 ( j_from_cons jmf_15 ( j_from_cons jmf_16 ( j_from_cons jmf_17 ( j_from_cons jmf_18 ( j_from_cons jmf_19 (j_from_nil))))))))))))))))))))
theorem jmfs_1 : j_from (fun k (_ : Unit) => j_mf k) 20 [(), (), (), (), (), (), (), (), (), (), (), (), (), (), (), (), (), (), (), ()] := j_from_cons jmf_20 ( j_from_cons jmf_21 ( j_from_cons jmf_22 ( j_from_cons jmf_23 ( j_from_cons jmf_24 ( j_from_cons jmf_25 ( j_from_cons jmf_26 ( j_from_cons jmf_27 ( j_from_cons jmf_28 ( j_from_cons jmf_29 ( j_from_cons jmf_30 ( j_from_cons jmf_31 ( j_from_cons jmf_32 ( j_from_cons jmf_33 ( j_from_cons jmf_34 ( j_from_cons jmf_35 ( j_from_cons jmf_36 ( j_from_cons jmf_37 ( j_from_cons jmf_38 ( j_from_cons jmf_39 (j_from_nil))))))))))))))))))))
theorem jmfs_2 : j_from (fun k (_ : Unit) => j_mf k) 40 [(), (), (), (), (), (), (), (), (), (), (), (), (), (), (), (), (), (), (), ()] := j_from_cons jmf_40 ( j_from_cons jmf_41 ( j_from_cons jmf_42 ( j_from_cons jmf_43 ( j_from_cons jmf_44 ( j_from_cons jmf_45 ( j_from_cons jmf_46 ( j_from_cons jmf_47 ( j_from_cons jmf_48 ( j_from_cons jmf_49 ( j_from_cons jmf_50 ( j_from_cons jmf_51 ( j_from_cons jmf_52 ( j_from_cons jmf_53 ( j_from_cons jmf_54 ( j_from_cons jmf_55 ( j_from_cons jmf_56 ( j_from_cons jmf_57 ( j_from_cons jmf_58 ( j_from_cons jmf_59 (j_from_nil))))))))))))))))))))
theorem jmfs_3 : j_from (fun k (_ : Unit) => j_mf k) 60 [(), (), (), (), (), (), (), (), (), (), (), (), (), (), (), (), (), (), (), ()] := j_from_cons jmf_60 ( j_from_cons jmf_61 ( j_from_cons jmf_62 ( j_from_cons jmf_63 ( j_from_cons jmf_64 ( j_from_cons jmf_65 ( j_from_cons jmf_66 ( j_from_cons jmf_67 ( j_from_cons jmf_68 ( j_from_cons jmf_69 ( j_from_cons jmf_70 ( j_from_cons jmf_71 ( j_from_cons jmf_72 ( j_from_cons jmf_73 ( j_from_cons jmf_74 ( j_from_cons jmf_75 ( j_from_cons jmf_76 ( j_from_cons jmf_77 ( j_from_cons jmf_78 ( j_from_cons jmf_79 (j_from_nil))))))))))))))))))))
theorem jmfs_4 : j_from (fun k (_ : Unit) => j_mf k) 80 [(), (), (), (), (), (), (), (), (), (), (), (), (), (), (), (), (), (), (), ()] := j_from_cons jmf_80 ( j_from_cons jmf_81 ( j_from_cons jmf_82 ( j_from_cons jmf_83 ( j_from_cons jmf_84 ( j_from_cons jmf_85 ( j_from_cons jmf_86 ( j_from_cons jmf_87 ( j_from_cons jmf_88 ( j_from_cons jmf_89 ( j_from_cons jmf_90 ( j_from_cons jmf_91 ( j_from_cons jmf_92 ( j_from_cons jmf_93 ( j_from_cons jmf_94 ( j_from_cons jmf_95 ( j_from_cons jmf_96 ( j_from_cons jmf_97 ( j_from_cons jmf_98 ( j_from_cons jmf_99 (j_from_nil))))))))))))))))))))
theorem jmfs_5 : j_from (fun k (_ : Unit) => j_mf k) 100 [(), (), (), (), (), (), (), (), (), (), (), (), (), (), (), (), (), (), (), ()] := j_from_cons jmf_100 ( j_from_cons jmf_101 ( j_from_cons jmf_102 ( j_from_cons jmf_103 ( j_from_cons jmf_104 ( j_from_cons jmf_105 ( j_from_cons jmf_106 ( j_from_cons jmf_107 ( j_from_cons jmf_108 ( j_from_cons jmf_109 ( j_from_cons jmf_110 ( j_from_cons jmf_111 ( j_from_cons jmf_112 ( j_from_cons jmf_113 ( j_from_cons jmf_114 ( j_from_cons jmf_115 ( j_from_cons jmf_116 ( j_from_cons jmf_117 ( j_from_cons jmf_118 ( j_from_cons jmf_119 (j_from_nil))))))))))))))))))))
theorem jmfs_6 : j_from (fun k (_ : Unit) => j_mf k) 120 [(), (), (), (), (), (), (), (), (), (), (), (), (), (), (), (), (), (), (), ()] := j_from_cons jmf_120 ( j_from_cons jmf_121 ( j_from_cons jmf_122 ( j_from_cons jmf_123 ( j_from_cons jmf_124 ( j_from_cons jmf_125 ( j_from_cons jmf_126 ( j_from_cons jmf_127 ( j_from_cons jmf_128 ( j_from_cons jmf_129 ( j_from_cons jmf_130 ( j_from_cons jmf_131 ( j_from_cons jmf_132 ( j_from_cons jmf_133 ( j_from_cons jmf_134 ( j_from_cons jmf_135 ( j_from_cons jmf_136 ( j_from_cons jmf_137 ( j_from_cons jmf_138 ( j_from_cons jmf_139 (j_from_nil))))))))))))))))))))
theorem jmfs_7 : j_from (fun k (_ : Unit) => j_mf k) 140 [(), (), (), (), (), (), (), (), (), (), (), (), (), (), (), (), (), (), (), ()] := j_from_cons jmf_140 ( j_from_cons jmf_141 ( j_from_cons jmf_142 ( j_from_cons jmf_143 ( j_from_cons jmf_144 ( j_from_cons jmf_145 ( j_from_cons jmf_146 ( j_from_cons jmf_147 ( j_from_cons jmf_148 ( j_from_cons jmf_149 ( j_from_cons jmf_150 ( j_from_cons jmf_151 ( j_from_cons jmf_152 ( j_from_cons jmf_153 ( j_from_cons jmf_154 ( j_from_cons jmf_155 ( j_from_cons jmf_156 ( j_from_cons jmf_157 ( j_from_cons jmf_158 ( j_from_cons jmf_159 (j_from_nil))))))))))))))))))))
theorem jmfs_8 : j_from (fun k (_ : Unit) => j_mf k) 160 [(), (), (), (), (), (), (), (), (), (), (), (), (), (), (), (), (), (), (), ()] := j_from_cons jmf_160 ( j_from_cons jmf_161 ( j_from_cons jmf_162 ( j_from_cons jmf_163 ( j_from_cons jmf_164 ( j_from_cons jmf_165 ( j_from_cons jmf_166 ( j_from_cons jmf_167 ( j_from_cons jmf_168 ( j_from_cons jmf_169 ( j_from_cons jmf_170 ( j_from_cons jmf_171 ( j_from_cons jmf_172 ( j_from_cons jmf_173 ( j_from_cons jmf_174 ( j_from_cons jmf_175 ( j_from_cons jmf_176 ( j_from_cons jmf_177 ( j_from_cons jmf_178 ( j_from_cons jmf_179 (j_from_nil))))))))))))))))))))
theorem jmfs_9 : j_from (fun k (_ : Unit) => j_mf k) 180 [(), (), (), (), (), (), (), (), (), (), (), (), (), (), (), (), (), (), (), ()] := j_from_cons jmf_180 ( j_from_cons jmf_181 ( j_from_cons jmf_182 ( j_from_cons jmf_183 ( j_from_cons jmf_184 ( j_from_cons jmf_185 ( j_from_cons jmf_186 ( j_from_cons jmf_187 ( j_from_cons jmf_188 ( j_from_cons jmf_189 ( j_from_cons jmf_190 ( j_from_cons jmf_191 ( j_from_cons jmf_192 ( j_from_cons jmf_193 ( j_from_cons jmf_194 ( j_from_cons jmf_195 ( j_from_cons jmf_196 ( j_from_cons jmf_197 ( j_from_cons jmf_198 ( j_from_cons jmf_199 (j_from_nil))))))))))))))))))))
theorem jmfs_10 : j_from (fun k (_ : Unit) => j_mf k) 200 [(), (), (), (), (), (), (), (), (), (), (), (), (), (), (), (), (), (), (), ()] := j_from_cons jmf_200 ( j_from_cons jmf_201 ( j_from_cons jmf_202 ( j_from_cons jmf_203 ( j_from_cons jmf_204 ( j_from_cons jmf_205 ( j_from_cons jmf_206 ( j_from_cons jmf_207 ( j_from_cons jmf_208 ( j_from_cons jmf_209 ( j_from_cons jmf_210 ( j_from_cons jmf_211 ( j_from_cons jmf_212 ( j_from_cons jmf_213 ( j_from_cons jmf_214 ( j_from_cons jmf_215 ( j_from_cons jmf_216 ( j_from_cons jmf_217 ( j_from_cons jmf_218 ( j_from_cons jmf_219 (j_from_nil))))))))))))))))))))
theorem jmfs_11 : j_from (fun k (_ : Unit) => j_mf k) 220 [(), (), (), (), (), (), (), (), (), (), (), (), (), (), (), (), (), (), (), ()] := j_from_cons jmf_220 ( j_from_cons jmf_221 ( j_from_cons jmf_222 ( j_from_cons jmf_223 ( j_from_cons jmf_224 ( j_from_cons jmf_225 ( j_from_cons jmf_226 ( j_from_cons jmf_227 ( j_from_cons jmf_228 ( j_from_cons jmf_229 ( j_from_cons jmf_230 ( j_from_cons jmf_231 ( j_from_cons jmf_232 ( j_from_cons jmf_233 ( j_from_cons jmf_234 ( j_from_cons jmf_235 ( j_from_cons jmf_236 ( j_from_cons jmf_237 ( j_from_cons jmf_238 ( j_from_cons jmf_239 (j_from_nil))))))))))))))))))))
theorem jmfs_12 : j_from (fun k (_ : Unit) => j_mf k) 240 [(), (), (), (), (), (), (), (), (), (), (), (), (), (), (), (), (), (), (), ()] := j_from_cons jmf_240 ( j_from_cons jmf_241 ( j_from_cons jmf_242 ( j_from_cons jmf_243 ( j_from_cons jmf_244 ( j_from_cons jmf_245 ( j_from_cons jmf_246 ( j_from_cons jmf_247 ( j_from_cons jmf_248 ( j_from_cons jmf_249 ( j_from_cons jmf_250 ( j_from_cons jmf_251 ( j_from_cons jmf_252 ( j_from_cons jmf_253 ( j_from_cons jmf_254 ( j_from_cons jmf_255 ( j_from_cons jmf_256 ( j_from_cons jmf_257 ( j_from_cons jmf_258 ( j_from_cons jmf_259 (j_from_nil))))))))))))))))))))
theorem jmfs_13 : j_from (fun k (_ : Unit) => j_mf k) 260 [(), (), (), (), (), (), (), (), (), (), (), (), (), (), (), (), (), (), (), ()] := j_from_cons jmf_260 ( j_from_cons jmf_261 ( j_from_cons jmf_262 ( j_from_cons jmf_263 ( j_from_cons jmf_264 ( j_from_cons jmf_265 ( j_from_cons jmf_266 ( j_from_cons jmf_267 ( j_from_cons jmf_268 ( j_from_cons jmf_269 ( j_from_cons jmf_270 ( j_from_cons jmf_271 ( j_from_cons jmf_272 ( j_from_cons jmf_273 ( j_from_cons jmf_274 ( j_from_cons jmf_275 ( j_from_cons jmf_276 ( j_from_cons jmf_277 ( j_from_cons jmf_278 ( j_from_cons jmf_279 (j_from_nil))))))))))))))))))))
theorem jmfs_14 : j_from (fun k (_ : Unit) => j_mf k) 280 [(), (), (), (), (), (), (), (), (), (), (), (), (), (), (), (), (), (), (), ()] := j_from_cons jmf_280 ( j_from_cons jmf_281 ( j_from_cons jmf_282 ( j_from_cons jmf_283 ( j_from_cons jmf_284 ( j_from_cons jmf_285 ( j_from_cons jmf_286 ( j_from_cons jmf_287 ( j_from_cons jmf_288 ( j_from_cons jmf_289 ( j_from_cons jmf_290 ( j_from_cons jmf_291 ( j_from_cons jmf_292 ( j_from_cons jmf_293 ( j_from_cons jmf_294 ( j_from_cons jmf_295 ( j_from_cons jmf_296 ( j_from_cons jmf_297 ( j_from_cons jmf_298 ( j_from_cons jmf_299 (j_from_nil))))))))))))))))))))
theorem jmfs_15 : j_from (fun k (_ : Unit) => j_mf k) 300 [(), (), (), (), (), (), (), (), (), (), (), (), (), (), (), (), (), (), (), ()] := j_from_cons jmf_300 ( j_from_cons jmf_301 ( j_from_cons jmf_302 ( j_from_cons jmf_303 ( j_from_cons jmf_304 ( j_from_cons jmf_305 ( j_from_cons jmf_306 ( j_from_cons jmf_307 ( j_from_cons jmf_308 ( j_from_cons jmf_309 ( j_from_cons jmf_310 ( j_from_cons jmf_311 ( j_from_cons jmf_312 ( j_from_cons jmf_313 ( j_from_cons jmf_314 ( j_from_cons jmf_315 ( j_from_cons jmf_316 ( j_from_cons jmf_317 ( j_from_cons jmf_318 ( j_from_cons jmf_319 (j_from_nil))))))))))))))))))))
theorem jmfs_16 : j_from (fun k (_ : Unit) => j_mf k) 320 [(), (), (), (), (), (), (), (), (), (), (), (), (), (), (), (), (), (), (), ()] := j_from_cons jmf_320 ( j_from_cons jmf_321 ( j_from_cons jmf_322 ( j_from_cons jmf_323 ( j_from_cons jmf_324 ( j_from_cons jmf_325 ( j_from_cons jmf_326 ( j_from_cons jmf_327 ( j_from_cons jmf_328 ( j_from_cons jmf_329 ( j_from_cons jmf_330 ( j_from_cons jmf_331 ( j_from_cons jmf_332 ( j_from_cons jmf_333 ( j_from_cons jmf_334 ( j_from_cons jmf_335 ( j_from_cons jmf_336 ( j_from_cons jmf_337 ( j_from_cons jmf_338 ( j_from_cons jmf_339 (j_from_nil))))))))))))))))))))
theorem jmfs_17 : j_from (fun k (_ : Unit) => j_mf k) 340 [(), (), (), (), (), (), (), (), (), (), (), (), (), (), (), (), (), (), (), ()] := j_from_cons jmf_340 ( j_from_cons jmf_341 ( j_from_cons jmf_342 ( j_from_cons jmf_343 ( j_from_cons jmf_344 ( j_from_cons jmf_345 ( j_from_cons jmf_346 ( j_from_cons jmf_347 ( j_from_cons jmf_348 ( j_from_cons jmf_349 ( j_from_cons jmf_350 ( j_from_cons jmf_351 ( j_from_cons jmf_352 ( j_from_cons jmf_353 ( j_from_cons jmf_354 ( j_from_cons jmf_355 ( j_from_cons jmf_356 ( j_from_cons jmf_357 ( j_from_cons jmf_358 ( j_from_cons jmf_359 (j_from_nil))))))))))))))))))))
theorem jmfs_18 : j_from (fun k (_ : Unit) => j_mf k) 360 [()] := j_from_cons jmf_360 (j_from_nil)
def j_units : List (List Unit) := [[(), (), (), (), (), (), (), (), (), (), (), (), (), (), (), (), (), (), (), ()], [(), (), (), (), (), (), (), (), (), (), (), (), (), (), (), (), (), (), (), ()], [(), (), (), (), (), (), (), (), (), (), (), (), (), (), (), (), (), (), (), ()], [(), (), (), (), (), (), (), (), (), (), (), (), (), (), (), (), (), (), (), ()], [(), (), (), (), (), (), (), (), (), (), (), (), (), (), (), (), (), (), (), ()], [(), (), (), (), (), (), (), (), (), (), (), (), (), (), (), (), (), (), (), ()], [(), (), (), (), (), (), (), (), (), (), (), (), (), (), (), (), (), (), (), ()], [(), (), (), (), (), (), (), (), (), (), (), (), (), (), (), (), (), (), (), ()], [(), (), (), (), (), (), (), (), (), (), (), (), (), (), (), (), (), (), (), ()], [(), (), (), (), (), (), (), (), (), (), (), (), (), (), (), (), (), (), (), ()], [(), (), (), (), (), (), (), (), (), (), (), (), (), (), (), (), (), (), (), ()], [(), (), (), (), (), (), (), (), (), (), (), (), (), (), (), (), (), (), (), ()], [(), (), (), (), (), (), (), (), (), (), (), (), (), (), (), (), (), (), (), ()], [(), (), (), (), (), (), (), (), (), (), (), (), (), (), (), (), (), (), (), ()], [(), (), (), (), (), (), (), (), (), (), (), (), (), (), (), (), (), (), (), ()], [(), (), (), (), (), (), (), (), (), (), (), (), (), (), (), (), (), (), (), ()], [(), (), (), (), (), (), (), (), (), (), (), (), (), (), (), (), (), (), (), ()], [(), (), (), (), (), (), (), (), (), (), (), (), (), (), (), (), (), (), (), ()], [()]]
theorem jmfs_all : j_from (fun c l => j_from (fun k (_ : Unit) => j_mf k) (20 * c) l) 0 j_units := j_from_cons jmfs_0 ( j_from_cons jmfs_1 ( j_from_cons jmfs_2 ( j_from_cons jmfs_3 ( j_from_cons jmfs_4 ( j_from_cons jmfs_5 ( j_from_cons jmfs_6 ( j_from_cons jmfs_7 ( j_from_cons jmfs_8 ( j_from_cons jmfs_9 ( j_from_cons jmfs_10 ( j_from_cons jmfs_11 ( j_from_cons jmfs_12 ( j_from_cons jmfs_13 ( j_from_cons jmfs_14 ( j_from_cons jmfs_15 ( j_from_cons jmfs_16 ( j_from_cons jmfs_17 ( j_from_cons jmfs_18 (j_from_nil)))))))))))))))))))
theorem j_units_at : ∀ k, k < 361 → (j_units[k / 20]?.bind fun l => l[k % 20]?) = some () := by decide +kernel
theorem jmf_all : ∀ k, k < 361 → j_mf k := by
  intro k hk
  obtain ⟨l, h1, h2⟩ := Option.bind_eq_some_iff.mp (j_units_at k hk)
  have := jmfs_all _ _ h1 _ _ h2
  rwa [show 20 * (0 + k / 20) + k % 20 = k by omega] at this
end
section
noncomputable def j_chk (k : Nat) (q : Nat × jE × Nat × Nat) : Bool :=
  decide (decode (j_bt k) q.1 = .ok (q.2.1.1, q.2.1.2.1)) && (match q.2.1.1 with
  | .ifCond _ off => Nat.beq q.2.1.2.1 3 && decide ((q.1 : Int) + off = (q.2.1.2.2.1 : Int))
  | .if_icmp _ off => Nat.beq q.2.1.2.1 3 && decide ((q.1 : Int) + off = (q.2.1.2.2.1 : Int))
  | .goto off => Nat.beq q.2.1.2.1 3 && decide ((q.1 : Int) + off = (q.2.1.2.2.1 : Int))
  | .tableswitch _ _ _ _ => true
  | .lookupswitch _ ps => (ps.toList.zip (ps.toList.drop 1)).all (fun (a, next) => a.1 < next.1)
  | .ireturn => Nat.beq q.2.1.2.1 1 && decide (j_rt k = some q.2.1.2.2.2.2.2)
  | .lreturn => Nat.beq q.2.1.2.1 1 && decide (j_rt k = some .long)
  | .areturn => Nat.beq q.2.1.2.1 1 && (match j_rt k with | some (.array _) => true | _ => false)
  | .return_ => Nat.beq q.2.1.2.1 1 && decide (j_rt k = none)
  | .getfield i => Nat.beq q.2.1.2.1 3 && (cond (Nat.beq q.2.1.2.2.1 99) (Nat.blt q.2.1.2.2.2.1 2 && j_has q.2.2.1 q.2.2.2 (.fieldLink (j_own k) i "java/lang/String" (j_sf q.2.1.2.2.2.1).1 (j_sf q.2.1.2.2.2.1).2))
      (match vwCl[q.2.1.2.2.1]? with
        | some r => Nat.blt q.2.1.2.2.2.1 r.2.2 && (cond (Nat.beq q.2.2.1 99) (decide (Cond.fieldLinkNest (j_own k) i (r.2.1 q.2.1.2.2.2.1).1 (r.2.1 q.2.1.2.2.2.1).2.1 (r.2.1 q.2.1.2.2.2.1).2.2.1 "HundredWords" ∈ j_ks.2)) (j_has q.2.2.1 q.2.2.2 (.fieldLink (j_own k) i (r.2.1 q.2.1.2.2.2.1).1 (r.2.1 q.2.1.2.2.2.1).2.1 (r.2.1 q.2.1.2.2.2.1).2.2.1)))
        | none => false))
  | .putfield i => Nat.beq q.2.1.2.1 3 && (match vwCl[q.2.1.2.2.1]? with
        | some r => Nat.blt q.2.1.2.2.2.1 r.2.2 && j_has q.2.2.1 q.2.2.2 (.fieldLink (j_own k) i (r.2.1 q.2.1.2.2.2.1).1 (r.2.1 q.2.1.2.2.2.1).2.1 (r.2.1 q.2.1.2.2.2.1).2.2.1) && decide (parseFieldDescriptor (r.2.1 q.2.1.2.2.2.1).2.2.1 = some q.2.1.2.2.2.2.2) && (cond (r.2.1 q.2.1.2.2.2.1).2.2.2 (decide ((j_yn k).name = "<init>") && decide ((r.2.1 q.2.1.2.2.2.1).1 = j_own k)) true)
        | none => false)
  | .getstatic i => Nat.beq q.2.1.2.1 3 && j_zs.any (fun z => decide (z.2.2.2 = q.2.1.2.2.2.2.1) && j_has q.2.2.1 q.2.2.2 (.fieldLink (j_own k) i z.1 z.2.1 z.2.2.1))
  | .ldc2_w i => Nat.beq q.2.1.2.1 3 && (match q.2.1.2.2.2.2.1 with | .long x => j_has q.2.2.1 q.2.2.2 (.constantLong (j_own k) i x) | _ => false)
  | .ldc i => Nat.beq q.2.1.2.1 2 && j_ks.1.any (fun z => decide (z.1 = j_own k) && decide (z.2.1 = i) && decide (z.2.2.2 = q.2.1.2.2.2.2.1))
  | .new i => Nat.beq q.2.1.2.1 3 && (match vwCl[q.2.1.2.2.1]? with | some r => j_has q.2.2.1 q.2.2.2 (.classLink (j_own k) i r.1) | none => false)
  | .newarray t => Nat.beq q.2.1.2.1 2 && decide (newarray.typeOf t = j_ty q.2.1.2.2.1) && Nat.blt q.2.1.2.2.1 4 && j_has q.2.2.1 q.2.2.2 (.arrayClass (j_ty q.2.1.2.2.1)) && decide (q.2.1.2.2.2.2.1 = defaultValue (j_ty q.2.1.2.2.1))
  | .anewarray i => Nat.beq q.2.1.2.1 3 && j_has q.2.2.1 q.2.2.2 (.classLink (j_own k) i "HundredWords$Row")
  | .invokevirtual i => Nat.beq q.2.1.2.1 3 && Nat.blt q.2.1.2.2.1 361 && Nat.beq (j_kn q.2.1.2.2.1) 0 && j_has q.2.2.1 q.2.2.2 (.methodLink (j_own k) i (j_yn q.2.1.2.2.1)) && Nat.beq q.2.1.2.2.2.1 (j_np q.2.1.2.2.1 + 1)
  | .invokestatic i => Nat.beq q.2.1.2.1 3 && Nat.blt q.2.1.2.2.1 361 && Nat.beq (j_kn q.2.1.2.2.1) 1 && (cond (Nat.beq q.2.2.1 99) (decide (Cond.methodLinkNest (j_own k) i (j_yn q.2.1.2.2.1) "HundredWords" ∈ j_ks.2)) (j_has q.2.2.1 q.2.2.2 (.methodLink (j_own k) i (j_yn q.2.1.2.2.1)))) && Nat.beq q.2.1.2.2.2.1 (j_np q.2.1.2.2.1)
  | .invokespecial i => Nat.beq q.2.1.2.1 3 && (cond (Nat.beq q.2.1.2.2.1 1000) (j_has q.2.2.1 q.2.2.2 (.methodLink (j_own k) i Lib.objectInit)) (Nat.blt q.2.1.2.2.1 361 && Nat.beq (j_kn q.2.1.2.2.1) 2 && j_has q.2.2.1 q.2.2.2 (.methodLink (j_own k) i (j_yn q.2.1.2.2.1)) && Nat.beq q.2.1.2.2.2.1 (j_np q.2.1.2.2.1 + 1)))
  | i => Nat.beq q.2.1.2.1 (j_len i))
noncomputable def j_call (k : Nat) (l : List (List (Nat × jE × Nat × Nat))) : Bool := l.all (fun r => r.all (j_chk k))
abbrev j_okk (k pc : Nat) (e : jE) : Prop := j_ok j_yn j_bt j_rt j_mx j_rc j_own vwCl j_TW j_zs j_ks k pc e
set_option maxHeartbeats 4000000 in
theorem j_chk_ok {k pc c o : Nat} {e : jE} (h : j_chk k (pc, e, c, o) = true) : j_okk k pc e := by
  obtain ⟨ins, len, l1, l2, val, ty⟩ := e
  unfold j_chk at h
  rw [Bool.and_eq_true] at h
  obtain ⟨hd, h⟩ := h
  have hd : decode (j_bt k) pc = .ok (ins, len) := of_decide_eq_true hd
  have bq : ∀ {a b : Nat}, Nat.beq a b = true → a = b := fun h => Nat.eq_of_beq_eq_true h
  have bl : ∀ {a b : Nat}, Nat.blt a b = true → a < b := fun h => Nat.le_of_ble_eq_true h
  cases ins with
  | ifCond cd off =>
    simp only [Bool.and_eq_true, decide_eq_true_eq] at h
    exact ⟨hd, h.2, bq h.1⟩
  | if_icmp cd off =>
    simp only [Bool.and_eq_true, decide_eq_true_eq] at h
    exact ⟨hd, h.2, bq h.1⟩
  | goto off =>
    simp only [Bool.and_eq_true, decide_eq_true_eq] at h
    exact ⟨hd, h.2, bq h.1⟩
  | tableswitch _ _ _ _ => exact ⟨hd, trivial, trivial⟩
  | lookupswitch d ps => exact ⟨hd, h, trivial⟩
  | ireturn =>
    simp only [Bool.and_eq_true, decide_eq_true_eq] at h
    exact ⟨hd, trivial, bq h.1, h.2⟩
  | lreturn =>
    simp only [Bool.and_eq_true, decide_eq_true_eq] at h
    exact ⟨hd, trivial, bq h.1, h.2⟩
  | areturn =>
    simp only [Bool.and_eq_true] at h
    refine ⟨hd, trivial, bq h.1, ?_⟩
    have h2 := h.2
    split at h2
    · rename_i t ht
      exact ⟨t, ht⟩
    · cases h2
  | return_ =>
    simp only [Bool.and_eq_true, decide_eq_true_eq] at h
    exact ⟨hd, trivial, bq h.1, h.2⟩
  | getfield i =>
    simp only [Bool.and_eq_true] at h
    refine ⟨hd, ?_, bq h.1⟩
    have h2 := h.2
    cases hb : Nat.beq l1 99 with
    | true =>
      rw [hb] at h2
      simp only [cond_true, Bool.and_eq_true] at h2
      exact Or.inl ⟨bq hb, bl h2.1, j_has_in h2.2⟩
    | false =>
      rw [hb] at h2
      simp only [cond_false] at h2
      refine Or.inr ⟨(fun z => by rw [show l1 = 99 from z] at hb; cases hb), ?_⟩
      split at h2
      · rename_i r hr
        rw [Bool.and_eq_true] at h2
        refine ⟨r.1, r.2.1, r.2.2, hr, bl h2.1, ?_⟩
        have h3 := h2.2
        cases hb3 : Nat.beq c 99 with
        | true =>
          rw [hb3] at h3
          exact Or.inr ⟨_, of_decide_eq_true h3⟩
        | false =>
          rw [hb3] at h3
          exact Or.inl (j_has_in h3)
      · cases h2
  | putfield i =>
    simp only [Bool.and_eq_true] at h
    refine ⟨hd, ?_, bq h.1⟩
    have h2 := h.2
    split at h2
    · rename_i r hr
      simp only [Bool.and_eq_true, decide_eq_true_eq] at h2
      refine ⟨(fun z => by rw [show l1 = 99 from z] at hr; exact absurd hr (by rw [j_kd_ok.2.1]; exact fun y => (by cases y))), r.1, r.2.1, r.2.2, hr, bl h2.1.1.1, j_has_in h2.1.1.2, h2.1.2, fun hf => ?_⟩
      have h3 := h2.2
      rw [show (r.2.1 l2).2.2.2 = true from hf] at h3
      simp only [cond_true, Bool.and_eq_true, decide_eq_true_eq] at h3
      exact h3
    · cases h2
  | getstatic i =>
    simp only [Bool.and_eq_true] at h
    obtain ⟨z, hz, h2⟩ := List.any_eq_true.mp h.2
    simp only [Bool.and_eq_true, decide_eq_true_eq] at h2
    refine ⟨hd, ⟨z.1, z.2.1, z.2.2.1, ?_, j_has_in h2.2⟩, bq h.1⟩
    show (z.1, z.2.1, z.2.2.1, val) ∈ j_zs
    rw [← show z.2.2.2 = val from h2.1]
    exact hz
  | ldc2_w i =>
    simp only [Bool.and_eq_true] at h
    refine ⟨hd, ?_, bq h.1⟩
    have h2 := h.2
    split at h2
    · rename_i x hx
      exact ⟨x, hx, j_has_in h2⟩
    · cases h2
  | ldc i =>
    simp only [Bool.and_eq_true] at h
    obtain ⟨z, hz, h2⟩ := List.any_eq_true.mp h.2
    simp only [Bool.and_eq_true, decide_eq_true_eq] at h2
    refine ⟨hd, ⟨z.2.2.1, ?_⟩, bq h.1⟩
    show (j_own k, i, z.2.2.1, val) ∈ j_ks.1
    rw [← show z.2.2.2 = val from h2.2, ← h2.1.1, ← h2.1.2]
    exact hz
  | new i =>
    simp only [Bool.and_eq_true] at h
    refine ⟨hd, ?_, bq h.1⟩
    have h2 := h.2
    split at h2
    · rename_i r hr
      have := j_ki_ok _ _ _ _ (show vwCl[l1]? = some (r.1, r.2.1, r.2.2) from hr)
      exact ⟨r.1, r.2.1, r.2.2, hr, j_has_in h2, this.1, this.2⟩
    · cases h2
  | newarray t =>
    simp only [Bool.and_eq_true, decide_eq_true_eq] at h
    exact ⟨hd, ⟨h.1.1.1.2, bl h.1.1.2, j_has_in h.1.2, h.2⟩, bq h.1.1.1.1⟩
  | anewarray i =>
    simp only [Bool.and_eq_true] at h
    exact ⟨hd, ⟨j_has_in h.2, j_ao⟩, bq h.1⟩
  | invokevirtual i =>
    simp only [Bool.and_eq_true] at h
    obtain ⟨⟨⟨⟨h1, h2⟩, h3⟩, h4⟩, h5⟩ := h
    have hk : j_kn l1 = 0 := bq h3
    rcases jmf_all l1 (bl h2) with z | ⟨m1, m2, m3, -, -⟩
    · rw [hk] at z; cases z
    · obtain ⟨m5, m6, m7⟩ := m3 hk
      exact ⟨hd, trivial, bq h1, m1, j_has_in h4, m5, m6, ⟨_, bq h5, m2⟩, m7⟩
  | invokestatic i =>
    simp only [Bool.and_eq_true] at h
    obtain ⟨⟨⟨⟨h1, h2⟩, h3⟩, h4⟩, h5⟩ := h
    have hk : j_kn l1 = 1 := bq h3
    have hn : l2 = j_np l1 := bq h5
    rcases jmf_all l1 (bl h2) with z | ⟨m1, m2, -, m3, -⟩
    · rw [hk] at z; cases z
    · refine ⟨hd, trivial, bq h1, m1, ?_, m3 hk, by show _ = some l2; rw [hn]; exact m2⟩
      cases hb3 : Nat.beq c 99 with
      | true =>
        rw [hb3] at h4
        exact Or.inr ⟨_, of_decide_eq_true h4⟩
      | false =>
        rw [hb3] at h4
        exact Or.inl (j_has_in h4)
  | invokespecial i =>
    simp only [Bool.and_eq_true] at h
    refine ⟨hd, trivial, bq h.1, ?_⟩
    have h2 := h.2
    cases hb : Nat.beq l1 1000 with
    | true =>
      rw [hb] at h2
      exact Or.inl ⟨bq hb, j_has_in h2, j_oi.1, j_oi.2⟩
    | false =>
      rw [hb] at h2
      simp only [cond_false, Bool.and_eq_true] at h2
      obtain ⟨⟨⟨h3, h4⟩, h5⟩, h6⟩ := h2
      have hk : j_kn l1 = 2 := bq h4
      rcases jmf_all l1 (bl h3) with z | ⟨m1, m2, -, -, m3⟩
      · rw [hk] at z; cases z
      · obtain ⟨m5, m6, m7⟩ := m3 hk
        exact Or.inr ⟨(fun z => by rw [show l1 = 1000 from z] at hb; cases hb), m1, j_has_in h5, m5, m6, m7, _, bq h6, m2⟩
  | _ => exact ⟨hd, trivial, bq h⟩
def j_tok (k : Nat) (l : List (List (Nat × jE × Nat × Nat))) : Prop := ∀ r ∈ l, ∀ q ∈ r, j_okk k q.1 q.2.1
theorem j_call_ok {k : Nat} {l : List (List (Nat × jE × Nat × Nat))} (h : j_call k l = true) : j_tok k l := fun r hr q hq => j_chk_ok (List.all_eq_true.mp (List.all_eq_true.mp h r hr) q hq)
end
