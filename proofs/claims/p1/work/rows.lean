section
/-! THE SMALL MACHINE: methods run over a list of cells; a reference is a place in the list. Places 0 .. 8 are old cells (the script, a static table, string constants), read alone. -/
abbrev jc : Type := Bool × Nat × List Value
abbrev jE : Type := Instr × Nat × Nat × Nat × Value × FieldType
abbrev jL : Type := List (Nat × Value)
abbrev jX : Type := Nat × jL × List Value × List jc × Nat × Nat
noncomputable def j_nth {α : Type} (l : List α) : Nat → Option α := List.rec (fun _ => none) (fun a _ ih i => Nat.casesOn i (some a) (fun j => ih j)) l
noncomputable def j_set {α : Type} (v : α) (l : List α) : Nat → List α := List.rec (fun _ => []) (fun a t ih i => Nat.casesOn i (v :: t) (fun j => a :: ih j)) l
noncomputable def j_get (l : jL) (i : Nat) : Option Value := List.rec none (fun q _ ih => cond (Nat.beq q.1 i) (some q.2) ih) l
def j_cat1 : Value → Bool | .long _ => false | .double _ => false | _ => true
def j_put1 (lv : jL) (i : Nat) (v : Value) : jL := (i, v) :: lv.filter (fun q => !(q.1 == i) && !(q.1 + 1 == i && q.2.category == 2))
def j_put2 (lv : jL) (i : Nat) (v : Value) : jL := (i, v) :: lv.filter (fun q => !(q.1 == i) && (!(q.1 == i + 1) && !(q.1 + 1 == i && q.2.category == 2)))
def j_ii (f : Int32 → Int32 → Int32) : List Value → Option (List Value) | .int y :: .int x :: r => some (.int (f x y) :: r) | _ => none
def j_id (f : Int32 → Int32 → Int32) : List Value → Option (List Value) | .int y :: .int x :: r => if y = 0 then none else some (.int (f x y) :: r) | _ => none
def j_ll (f : Int64 → Int64 → Int64) : List Value → Option (List Value) | .long y :: .long x :: r => some (.long (f x y) :: r) | _ => none
def j_ld (f : Int64 → Int64 → Int64) : List Value → Option (List Value) | .long y :: .long x :: r => if y = 0 then none else some (.long (f x y) :: r) | _ => none
def j_li (f : Int64 → Int32 → Int64) : List Value → Option (List Value) | .int y :: .long x :: r => some (.long (f x y) :: r) | _ => none
def j_ck (c : ClassFile.Cond) (x y : Int32) : Bool := match c with
  | .eq => decide (x = y)
  | .ne => decide (¬ x = y)
  | .lt => decide (x < y)
  | .ge => decide (y ≤ x)
  | .gt => decide (y < x)
  | .le => decide (x ≤ y)
def j_fit : FieldType → Value → Bool
  | .int, .int _ => true
  | .long, .long _ => true
  | .object _, .ref _ => true
  | .array _, .ref _ => true
  | .boolean, .int x => decide (x = 0) || decide (x = 1)
  | .byte, .int x => decide (x.toInt8.toInt32 = x) && decide (-128 ≤ x) && decide (x ≤ 127)
  | .char, .int x => decide ((x.toUInt32 % 65536).toInt32 = x) && decide (0 ≤ x) && decide (x ≤ 65535)
  | _, _ => false
noncomputable def j_at (hp : List jc) (a : Nat) (ts : List Nat) : Option (List Value) := match j_nth hp a with
  | some (true, t, l) => cond (ts.any (fun z => Nat.beq z t)) (some l) none
  | _ => none
noncomputable def j_ald (hp : List jc) (ts : List Nat) : List Value → Option (List Value)
  | .int i :: .ref a :: r => match j_at hp a ts with
    | some l => if i < 0 then none else match j_nth l i.toNatClampNeg with
      | some v => some (v :: r)
      | none => none
    | none => none
  | _ => none
noncomputable def j_ast (hp : List jc) (a t : Nat) (i : Int32) (v : Value) : Option (List jc) := cond (Nat.ble 9 a) (match j_at hp a [t] with
  | some l => if i < 0 then none else cond (Nat.blt i.toNatClampNeg l.length) (some (j_set (true, t, j_set v l i.toNatClampNeg) hp a)) none
  | none => none) none
def j_tsw (pc : Nat) (dflt lo hi : Int) (offs : Array Int) (x : Int) : Option Nat :=
  let off : Option Int := if x < lo ∨ hi < x then some dflt else offs[(x - lo).toNat]?
  match off with
  | some o => match (pc : Int) + o with
    | .ofNat n => some n
    | .negSucc _ => none
  | none => none
def j_lsw (pc : Nat) (dflt : Int) (ps : Array (Int × Int)) (x : Int) : Option Nat := match (pc : Int) + Op.lookupswitch.offset ps.toList dflt x with
  | .ofNat n => some n
  | .negSucc _ => none
def j_go (pc len : Nat) (lv : jL) (hp : List jc) : Option (List Value) → Option jX | some st' => some (pc + len, lv, st', hp, 0, 0) | none => none
noncomputable def jstep (df : Nat → List Value) (nl pc : Nat) (e : jE) (lv : jL) (st : List Value) (hp : List jc) : Option jX :=
  match e.1 with
  | .iconst n => j_go pc 1 lv hp (some (.int (Int32.ofInt n) :: st))
  | .bipush n => j_go pc 2 lv hp (some (.int (Int8.ofInt n).toInt32 :: st))
  | .sipush n => j_go pc 3 lv hp (some (.int (Int16.ofInt n).toInt32 :: st))
  | .lconst n => j_go pc 1 lv hp (some (.long (Int64.ofNat (n : Nat)) :: st))
  | .iload_n k => j_go pc 1 lv hp (match j_get lv k with | some (.int x) => some (.int x :: st) | _ => none)
  | .iload i => j_go pc 2 lv hp (match j_get lv i with | some (.int x) => some (.int x :: st) | _ => none)
  | .lload_n k => j_go pc 1 lv hp (match j_get lv k with | some (.long x) => some (.long x :: st) | _ => none)
  | .lload i => j_go pc 2 lv hp (match j_get lv i with | some (.long x) => some (.long x :: st) | _ => none)
  | .aload_n k => j_go pc 1 lv hp (match j_get lv k with | some (.ref x) => some (.ref x :: st) | _ => none)
  | .aload i => j_go pc 2 lv hp (match j_get lv i with | some (.ref x) => some (.ref x :: st) | _ => none)
  | .istore_n k => match st with | .int x :: r => cond (Nat.blt k nl) (some (pc + 1, j_put1 lv k (.int x), r, hp, 0, 0)) none | _ => none
  | .istore i => match st with | .int x :: r => cond (Nat.blt i nl) (some (pc + 2, j_put1 lv i (.int x), r, hp, 0, 0)) none | _ => none
  | .astore_n k => match st with | .ref x :: r => cond (Nat.blt k nl && Nat.ble 9 x) (some (pc + 1, j_put1 lv k (.ref x), r, hp, 0, 0)) none | _ => none
  | .astore i => match st with | .ref x :: r => cond (Nat.blt i nl && Nat.ble 9 x) (some (pc + 2, j_put1 lv i (.ref x), r, hp, 0, 0)) none | _ => none
  | .lstore_n k => match st with | .long x :: r => cond (Nat.blt (k + 1) nl) (some (pc + 1, j_put2 lv k (.long x), r, hp, 0, 0)) none | _ => none
  | .lstore i => match st with | .long x :: r => cond (Nat.blt (i + 1) nl) (some (pc + 2, j_put2 lv i (.long x), r, hp, 0, 0)) none | _ => none
  | .iinc i n => match j_get lv i with | some (.int x) => cond (Nat.blt i nl && Nat.beq e.2.1 3) (some (pc + 3, j_put1 lv i (.int (x + Int32.ofInt n)), st, hp, 0, 0)) none | _ => none
  | .iadd => j_go pc 1 lv hp (j_ii (fun x y => x + y) st)
  | .isub => j_go pc 1 lv hp (j_ii (fun x y => x - y) st)
  | .imul => j_go pc 1 lv hp (j_ii (fun x y => x * y) st)
  | .iand => j_go pc 1 lv hp (j_ii (fun x y => x &&& y) st)
  | .ior => j_go pc 1 lv hp (j_ii (fun x y => x ||| y) st)
  | .ishl => j_go pc 1 lv hp (j_ii (fun x y => x <<< (y &&& 31)) st)
  | .ishr => j_go pc 1 lv hp (j_ii (fun x y => x >>> (y &&& 31)) st)
  | .iushr => j_go pc 1 lv hp (j_ii (fun x y => (x.toUInt32 >>> (y.toUInt32 &&& Int32.toUInt32 31)).toInt32) st)
  | .idiv => j_go pc 1 lv hp (j_id (fun x y => x / y) st)
  | .irem => j_go pc 1 lv hp (j_id (fun x y => x - x / y * y) st)
  | .ladd => j_go pc 1 lv hp (j_ll (fun x y => x + y) st)
  | .lsub => j_go pc 1 lv hp (j_ll (fun x y => x - y) st)
  | .lmul => j_go pc 1 lv hp (j_ll (fun x y => x * y) st)
  | .land => j_go pc 1 lv hp (j_ll (fun x y => x &&& y) st)
  | .lor => j_go pc 1 lv hp (j_ll (fun x y => x ||| y) st)
  | .lxor => j_go pc 1 lv hp (j_ll (fun x y => x ^^^ y) st)
  | .ldiv => j_go pc 1 lv hp (j_ld (fun x y => x / y) st)
  | .lrem => j_go pc 1 lv hp (j_ld (fun x y => x - x / y * y) st)
  | .lshl => j_go pc 1 lv hp (j_li (fun x y => x <<< (y.toInt64 &&& 63)) st)
  | .lshr => j_go pc 1 lv hp (j_li (fun x y => x >>> (y.toInt64 &&& 63)) st)
  | .lushr => j_go pc 1 lv hp (j_li (fun x y => (x.toUInt64 >>> (y.toInt64.toUInt64 &&& Int64.toUInt64 63)).toInt64) st)
  | .lcmp => j_go pc 1 lv hp (match st with | .long y :: .long x :: r => some (.int (lg_cmp x y) :: r) | _ => none)
  | .ineg => j_go pc 1 lv hp (match st with | .int x :: r => some (.int (-x) :: r) | _ => none)
  | .lneg => j_go pc 1 lv hp (match st with | .long x :: r => some (.long (-x) :: r) | _ => none)
  | .i2l => j_go pc 1 lv hp (match st with | .int x :: r => some (.long x.toInt64 :: r) | _ => none)
  | .l2i => j_go pc 1 lv hp (match st with | .long x :: r => some (.int x.toInt32 :: r) | _ => none)
  | .i2c => j_go pc 1 lv hp (match st with | .int x :: r => some (.int (x.toUInt32 % 65536).toInt32 :: r) | _ => none)
  | .dup => j_go pc 1 lv hp (match st with | v :: r => cond (j_cat1 v) (some (v :: v :: r)) none | _ => none)
  | .pop => j_go pc 1 lv hp (match st with | v :: r => cond (j_cat1 v) (some r) none | _ => none)
  | .dup2 => j_go pc 1 lv hp (match st with | v :: w :: r => cond (j_cat1 v && j_cat1 w) (some (v :: w :: v :: w :: r)) none | _ => none)
  | .ifCond c _ => match st with | .int x :: r => some (cond (j_ck c x 0) e.2.2.1 (pc + 3), lv, r, hp, 0, 0) | _ => none
  | .if_icmp c _ => match st with | .int y :: .int x :: r => some (cond (j_ck c x y) e.2.2.1 (pc + 3), lv, r, hp, 0, 0) | _ => none
  | .goto _ => some (e.2.2.1, lv, st, hp, 0, 0)
  | .tableswitch dflt lo hi offs => match st with | .int x :: r => (match j_tsw pc dflt lo hi offs x.toInt with | some t => some (t, lv, r, hp, 0, 0) | none => none) | _ => none
  | .lookupswitch dflt ps => match st with | .int x :: r => (match j_lsw pc dflt ps x.toInt with | some t => some (t, lv, r, hp, 0, 0) | none => none) | _ => none
  | .getfield _ => j_go pc 3 lv hp (match st with
    | .ref a :: r => match j_nth hp a with
      | some (false, ci, fs) => cond (Nat.beq ci e.2.2.1 && (Nat.ble 9 a || Nat.beq ci 99)) (match j_nth fs e.2.2.2.1 with | some v => some (v :: r) | none => none) none
      | _ => none
    | _ => none)
  | .putfield _ => match st with
    | v :: .ref a :: r => match j_nth hp a with
      | some (false, ci, fs) => cond (Nat.beq ci e.2.2.1 && Nat.ble 9 a && j_fit e.2.2.2.2.2 v) (some (pc + 3, lv, r, j_set (false, ci, j_set v fs e.2.2.2.1) hp a, 0, 0)) none
      | _ => none
    | _ => none
  | .getstatic _ => j_go pc 3 lv hp (some (e.2.2.2.2.1 :: st))
  | .ldc2_w _ => j_go pc 3 lv hp (some (e.2.2.2.2.1 :: st))
  | .ldc _ => j_go pc 2 lv hp (some (e.2.2.2.2.1 :: st))
  | .arraylength => j_go pc 1 lv hp (match st with
    | .ref a :: r => match j_nth hp a with
      | some (true, _, l) => some (.int (Int32.ofNat l.length) :: r)
      | _ => none
    | _ => none)
  | .iaload => j_go pc 1 lv hp (j_ald hp [0] st)
  | .laload => j_go pc 1 lv hp (j_ald hp [1] st)
  | .caload => j_go pc 1 lv hp (j_ald hp [2] st)
  | .baload => j_go pc 1 lv hp (j_ald hp [3, 5] st)
  | .aaload => j_go pc 1 lv hp (j_ald hp [4] st)
  | .iastore => match st with | .int x :: .int i :: .ref a :: r => (match j_ast hp a 0 i (.int x) with | some hp' => some (pc + 1, lv, r, hp', 0, 0) | none => none) | _ => none
  | .lastore => match st with | .long x :: .int i :: .ref a :: r => (match j_ast hp a 1 i (.long x) with | some hp' => some (pc + 1, lv, r, hp', 0, 0) | none => none) | _ => none
  | .castore => match st with | .int x :: .int i :: .ref a :: r => (match j_ast hp a 2 i (narrow .char (.int x)) with | some hp' => some (pc + 1, lv, r, hp', 0, 0) | none => none) | _ => none
  | .bastore => match st with | .int x :: .int i :: .ref a :: r => (match j_ast hp a 3 i (narrow .boolean (.int x)) with | some hp' => some (pc + 1, lv, r, hp', 0, 0) | none => none) | _ => none
  | .aastore => match st with
    | .ref v :: .int i :: .ref a :: r => match j_nth hp v with
      | some (false, ci, _) => cond (Nat.beq ci 4 && Nat.ble 9 v) (match j_ast hp a 4 i (.ref v) with | some hp' => some (pc + 1, lv, r, hp', 0, 0) | none => none) none
      | _ => none
    | _ => none
  | .new _ => some (pc + 3, lv, .ref hp.length :: st, hp ++ [(false, e.2.2.1, df e.2.2.1)], 1, (df e.2.2.1).length)
  | .newarray _ => match st with
    | .int n :: r => if n < 0 then none else cond (Nat.ble n.toNatClampNeg 60000000) (some (pc + 2, lv, .ref hp.length :: r, hp ++ [(true, e.2.2.1, List.replicate n.toNatClampNeg e.2.2.2.2.1)], 1, n.toNatClampNeg)) none
    | _ => none
  | .anewarray _ => match st with
    | .int n :: r => if n < 0 then none else cond (Nat.ble n.toNatClampNeg 60000000) (some (pc + 3, lv, .ref hp.length :: r, hp ++ [(true, 4, List.replicate n.toNatClampNeg .null)], 1, n.toNatClampNeg)) none
    | _ => none
  | _ => none
/-! A NATIVE METHOD: target 1001: System.arraycopy between rows of ints. -/
def j_isi : Value → Bool | .int _ => true | _ => false
def j_cpl (l0 l1 : List Value) (sp dp n : Nat) : List Value := l1.take dp ++ ((l0.drop sp).take n ++ l1.drop (dp + n))
noncomputable def j_cpy (st : List Value) (hp : List jc) : Option (List Value × List jc) := match st with
  | .int n :: .int dp :: .ref a :: .int sp :: .ref a0 :: r => match j_at hp a0 [0] with
    | some l0 => match j_at hp a [0] with
      | some l1 => if sp < 0 then none else if dp < 0 then none else if n < 0 then none else
        cond (Nat.ble 9 a0 && Nat.ble 9 a && Nat.ble (sp.toNatClampNeg + n.toNatClampNeg) l0.length && Nat.ble (dp.toNatClampNeg + n.toNatClampNeg) l1.length && ((l0.drop sp.toNatClampNeg).take n.toNatClampNeg).all j_isi)
          (some (r, j_set (true, 0, j_cpl l0 l1 sp.toNatClampNeg dp.toNatClampNeg n.toNatClampNeg) hp a)) none
      | none => none
    | none => none
  | _ => none
noncomputable def j_nat (t : Nat) (st : List Value) (hp : List jc) : Option (List Value × List jc) := cond (Nat.beq t 1001) (j_cpy st hp) none
def j_hd9 : List Value → Bool | .ref a :: _ => Nat.ble 9 a | _ => false
abbrev jR : Type := Option Value × List jc × Nat × Nat
noncomputable def jbody (F : Nat → Nat → Option jE) (mx rc : Nat → Nat) (df : Nat → List Value) (ih : Nat → Nat → jL → List Value → List jc → Nat → Nat → Nat → Nat → Option jR) (k pc : Nat) (lv : jL) (st : List Value) (hp : List jc) (c sl fr lo : Nat) : Option jR :=
  let call (virt : Bool) (e : jE) : Option jR :=
    let as := (st.take e.2.2.2.1).reverse
    let rest := st.drop e.2.2.2.1
    let ok : Bool := Nat.ble e.2.2.2.1 st.length && Nat.ble (rest.map fun v => v.category).sum 8 && Nat.ble 1 fr && Nat.ble (mx e.2.2.1 + 19) lo && Nat.ble (lg_sl as).length (mx e.2.2.1) &&
      (if virt then (match as with | .ref a :: _ => (match j_nth hp a with | some (false, ci, _) => Nat.beq ci (rc e.2.2.1) && (Nat.ble 9 a || Nat.beq ci 99) | _ => false) | _ => false) else true)
    cond ok (match ih e.2.2.1 0 (lv_args 0 as) [] hp 0 0 (fr - 1) (lo - (mx e.2.2.1 + 19)) with
      | some (v, hp', c1, s1) => ih k (pc + 3) lv (v.toList ++ rest) hp' (c + c1) (sl + s1) fr lo
      | none => none) none
  match F k pc with
  | none => none
  | some e => match e.1 with
    | .ireturn => match st with | [.int x] => cond (j_fit e.2.2.2.2.2 (.int x)) (some (some (.int x), hp, c, sl)) none | _ => none
    | .lreturn => match st with | [.long x] => some (some (.long x), hp, c, sl) | _ => none
    | .areturn => match st with | [.ref x] => cond (Nat.ble 9 x) (some (some (.ref x), hp, c, sl)) none | _ => none
    | .return_ => match st with | [] => some (none, hp, c, sl) | _ => none
    | .invokevirtual _ => call true e
    | .invokestatic _ => cond (Nat.ble 1001 e.2.2.1)
      (cond (Nat.ble 1 fr && Nat.ble ((st.map fun v => v.category).sum + 40) lo)
        (match j_nat e.2.2.1 st hp with
          | some (st', hp') => ih k (pc + 3) lv st' hp' c sl fr lo
          | none => none) none)
      (call false e)
    | .invokespecial _ => cond (Nat.beq e.2.2.1 1000)
      (match st with
        | .ref a :: r => cond (Nat.ble 9 a && Nat.ble 1 fr && Nat.ble ((r.map fun v => v.category).sum + 12) lo) (ih k (pc + 3) lv r hp c sl fr lo) none
        | _ => none)
      (cond (j_hd9 (st.drop (e.2.2.2.1 - 1))) (call false e) none)
    | _ => match jstep df (mx k) pc e lv st hp with
      | some (pc', lv', st', hp', dc, ds) => ih k pc' lv' st' hp' (c + dc) (sl + ds) fr lo
      | none => none
noncomputable def jrun (F : Nat → Nat → Option jE) (mx rc : Nat → Nat) (df : Nat → List Value) (n : Nat) : Nat → Nat → jL → List Value → List jc → Nat → Nat → Nat → Nat → Option jR :=
  Nat.rec (fun _ _ _ _ _ _ _ _ _ => none) (fun _ ih => jbody F mx rc df ih) n
theorem jrun_succ (F : Nat → Nat → Option jE) (mx rc : Nat → Nat) (df : Nat → List Value) (n : Nat) : jrun F mx rc df (n + 1) = jbody F mx rc df (jrun F mx rc df n) := rfl
end
section
/-! THE SMALL MACHINE AGAINST THE LARGE ONE: words for the two worlds side by side. -/
theorem j_nth_eq {α : Type} (l : List α) (i : Nat) : j_nth l i = l[i]? := by
  induction l generalizing i with
  | nil => simp [j_nth]
  | cons a t ih =>
    cases i with
    | zero => rfl
    | succ j => rw [List.getElem?_cons_succ, ← ih j]; rfl
theorem j_set_eq {α : Type} (v : α) (l : List α) (i : Nat) : j_set v l i = l.set i v := by
  induction l generalizing i with
  | nil => simp [j_set]
  | cons a t ih =>
    cases i with
    | zero => rfl
    | succ j => rw [List.set_cons_succ, ← ih j]; rfl
theorem j_get_mem {l : jL} {i : Nat} {v : Value} (h : j_get l i = some v) : (i, v) ∈ l := by
  induction l with
  | nil => simp [j_get] at h
  | cons q t ih =>
    have h' : cond (Nat.beq q.1 i) (some q.2) (j_get t i) = some v := h
    cases hb : Nat.beq q.1 i with
    | true =>
      rw [hb] at h'
      have e1 : q.1 = i := Nat.eq_of_beq_eq_true hb
      have e2 : q.2 = v := Option.some.inj h'
      rw [← e1, ← e2]
      exact List.mem_cons_self
    | false =>
      rw [hb] at h'
      exact List.mem_cons_of_mem _ (ih h')
def j_rv (g : Nat → Value) : Value → Value | .ref k => g k | v => v
def j_sl (g : Nat → Value) (lv : jL) : jL := lv.map (fun q => (q.1, j_rv g q.2))
theorem j_get_ls {g : Nat → Value} {ls : Array Slot} {n i : Nat} {lv : jL} {v : Value} (hl : lv_has ls n (j_sl g lv)) (h : j_get lv i = some v) : ls[i]? = some (.val (j_rv g v)) :=
  hl.2.2 (i, j_rv g v) (List.mem_map.mpr ⟨(i, v), j_get_mem h, rfl⟩)
def j_ty : Nat → FieldType := fun t => match t with
  | 0 => .int
  | 1 => .long
  | 2 => .char
  | 3 => .boolean
  | 4 => .object "HundredWords$Row"
  | _ => .byte
def j_tys (cA : Nat → ClassId) : List (ClassId × FieldType) := [(cA 0, .int), (cA 1, .long), (cA 2, .char), (cA 3, .boolean), (cA 4, .object "HundredWords$Row"), (cA 5, .byte)]
theorem j_tys_at (cA : Nat → ClassId) {t : Nat} (h : t < 6) : (j_tys cA)[t]? = some (cA t, j_ty t) := by
  match t, h with
  | 0, _ => rfl
  | 1, _ => rfl
  | 2, _ => rfl
  | 3, _ => rfl
  | 4, _ => rfl
  | 5, _ => rfl
def j_A (B : Nat) : Nat → Prop := fun q => B ≤ q
def j_G (g : Nat → Value) (ad : Nat → Nat) (B : Nat) : Prop := (∀ k, k ≠ 8 → g k = .ref (ad k)) ∧ (g 8 = .null ∨ ∃ a, g 8 = .ref a) ∧ (∀ k, 9 ≤ k → ad k = B + (k - 9)) ∧ ∀ k, k < 8 → ad k < B
def j_str (g : Nat → Value) (ad : Nat → Nat) (B : Nat) (U : State) (H : Heap) (k : Nat) (fs : List Value) : Prop :=
  k < 8 ∧ (∃ cell : Cell, H[ad k]? = some cell ∧ cell.vm.isStatics = false ∧ U.vm.findClass "java/lang/String" = some cell.cls) ∧
  (∀ v, fs[0]? = some v → va_OF "java/lang/String" "value" "[B" (j_rv g v) (ad k) (j_A B) U H) ∧ (∀ v, fs[1]? = some v → va_OF "java/lang/String" "coder" "B" (j_rv g v) (ad k) (j_A B) U H) ∧ fs.length = 2
def j_in (g : Nat → Value) (ad : Nat → Nat) (B : Nat) (D : va_G) (cA : Nat → ClassId) (cl : List vw_C) (U : State) (H : Heap) (k : Nat) (c : jc) : Prop :=
  if k < 9 then
    (c.1 = true → k < 8 ∧ ∃ cell : Cell, H[ad k]? = some cell ∧ U.isArrayOf cell (j_ty c.2.1) ∧ cell.vm ≠ .unknown ∧ c.2.2.length ≤ cell.slots.size ∧ cell.slots.size.toInt32 = Int32.ofNat c.2.2.length ∧ ∀ (j : Nat) (v : Value), c.2.2[j]? = some v → cell.slots[j]? = some (j_rv g v)) ∧
    (c.1 = false → c.2.1 = 99 → j_str g ad B U H k c.2.2)
  else
    (c.1 = true → c.2.1 < 6 ∧ H[ad k]? = some (arrV (cA c.2.1) c.2.2.length (fun j => j_rv g (c.2.2.getD j .null)))) ∧
    (c.1 = false → ∃ r : vw_C, cl[c.2.1]? = some r ∧ c.2.2.length = r.2.2 ∧ t_OB (ad k) (D.1 c.2.1) r.2.2 (D.2 c.2.1) H (fun j => j_rv g (c.2.2.getD j .null)))
def j_H (g : Nat → Value) (ad : Nat → Nat) (B : Nat) (D : va_G) (cA : Nat → ClassId) (cl : List vw_C) (U : State) (H : Heap) (hp : List jc) : Prop :=
  9 ≤ hp.length ∧ H.size + 9 = B + hp.length ∧ hp[8]? = some (false, 98, []) ∧ ∀ (k : Nat) (c : jc), hp[k]? = some c → j_in g ad B D cA cl U H k c
section JW
variable {g : Nat → Value} {ad : Nat → Nat} {B : Nat} {D : va_G} {cA : Nat → ClassId} {cl : List vw_C} {U V : State} {H H1 : Heap} {hp : List jc}
theorem j_str.kept {k : Nat} {fs : List Value} (h : j_str g ad B U H k fs) (hq : ∀ q : Nat, q < B → H1[q]? = H[q]?) (hb : ad k < B) : j_str g ad B U H1 k fs := by
  obtain ⟨h1, ⟨cell, h2, h3⟩, h4, h5, h6⟩ := h
  have hk : ∀ a : Nat, a < H.size → ¬ j_A B a → H1[a]? = H[a]? := fun a _ ha => hq a (Nat.lt_of_not_le ha)
  exact ⟨h1, ⟨cell, by rw [hq _ hb]; exact h2, h3⟩, fun v hv => (h4 v hv).kept hk, fun v hv => (h5 v hv).kept hk, h6⟩
theorem j_str.moved {k : Nat} {fs : List Value} (hvm : U.vm.Alike V.vm) (h : j_str g ad B U H k fs) : j_str g ad B V H k fs := by
  obtain ⟨h1, ⟨cell, h2, h3, h3'⟩, h4, h5, h6⟩ := h
  exact ⟨h1, ⟨cell, h2, h3, by rw [hvm.findClass]; exact h3'⟩, fun v hv => va_OF.moved hvm (h4 v hv), fun v hv => va_OF.moved hvm (h5 v hv), h6⟩
theorem j_in.kept {k : Nat} {c : jc} (hG : j_G g ad B) (h : j_in g ad B D cA cl U H k c) (hq : ∀ q : Nat, q < B → H1[q]? = H[q]?) (ho : 9 ≤ k → H1[ad k]? = H[ad k]?) : j_in g ad B D cA cl U H1 k c := by
  unfold j_in at h ⊢
  by_cases hk : k < 9
  · rw [if_pos hk] at h ⊢
    refine ⟨fun e => ?_, fun e1 e2 => ?_⟩
    · obtain ⟨h8, cell, h2⟩ := h.1 e
      exact ⟨h8, cell, by rw [hq _ (hG.2.2.2 k h8)]; exact h2.1, h2.2⟩
    · have h3 := h.2 e1 e2
      exact h3.kept hq (hG.2.2.2 k h3.1)
  · rw [if_neg hk] at h ⊢
    refine ⟨fun e => ⟨(h.1 e).1, by rw [ho (Nat.not_lt.mp hk)]; exact (h.1 e).2⟩, fun e => ?_⟩
    obtain ⟨r, h1, h2, h3⟩ := h.2 e
    exact ⟨r, h1, h2, h3.kept (ho (Nat.not_lt.mp hk))⟩
theorem j_in.moved {k : Nat} {c : jc} (hvm : U.vm.Alike V.vm) (h : j_in g ad B D cA cl U H k c) : j_in g ad B D cA cl V H k c := by
  unfold j_in at h ⊢
  by_cases hk : k < 9
  · rw [if_pos hk] at h ⊢
    refine ⟨fun e => ?_, fun e1 e2 => (h.2 e1 e2).moved hvm⟩
    obtain ⟨h8, cell, h2, h3, h4⟩ := h.1 e
    exact ⟨h8, cell, h2, State.isArrayOf_alike hvm h3, h4⟩
  · rw [if_neg hk] at h ⊢
    exact h
theorem j_H.moved (hvm : U.vm.Alike V.vm) (h : j_H g ad B D cA cl U H hp) : j_H g ad B D cA cl V H hp :=
  ⟨h.1, h.2.1, h.2.2.1, fun k c hk => (h.2.2.2 k c hk).moved hvm⟩
/-- a cell is changed -/
theorem j_H.put {a : Nat} {c0 c : jc} (hG : j_G g ad B) (h : j_H g ad B D cA cl U H hp) (h0 : hp[a]? = some c0) (h9 : 9 ≤ a) (hz : H1.size = H.size) (hq : ∀ q : Nat, q ≠ ad a → H1[q]? = H[q]?) (hc : j_in g ad B D cA cl U H1 a c) : j_H g ad B D cA cl U H1 (j_set c hp a) := by
  obtain ⟨h1, h2, h3, h4⟩ := h
  have hl := (List.getElem?_eq_some_iff.mp h0).1
  have haB : B ≤ ad a := by rw [hG.2.2.1 a h9]; omega
  rw [j_set_eq]
  refine ⟨by rw [List.length_set]; exact h1, by rw [List.length_set, hz]; exact h2, by rw [List.getElem?_set_ne (by omega)]; exact h3, fun k d hk => ?_⟩
  by_cases hka : k = a
  · subst hka
    rw [List.getElem?_set_self hl] at hk
    cases hk
    exact hc
  · rw [List.getElem?_set_ne (Ne.symm hka)] at hk
    refine (h4 k d hk).kept hG (fun q hqB => hq q (by omega)) (fun hk9 => hq _ ?_)
    rw [hG.2.2.1 a h9, hG.2.2.1 k hk9]
    omega
/-- a cell is made -/
theorem j_H.push {c : jc} (hG : j_G g ad B) (h : j_H g ad B D cA cl U H hp) (hz : H1.size = H.size + 1) (hq : ∀ q : Nat, q < H.size → H1[q]? = H[q]?) (hc : j_in g ad B D cA cl U H1 hp.length c) : j_H g ad B D cA cl U H1 (hp ++ [c]) := by
  obtain ⟨h1, h2, h3, h4⟩ := h
  refine ⟨by simp; omega, by rw [hz]; simp; omega, by rw [List.getElem?_append_left (by omega)]; exact h3, fun k d hk => ?_⟩
  by_cases hkl : k < hp.length
  · rw [List.getElem?_append_left hkl] at hk
    refine (h4 k d hk).kept hG (fun q hqB => hq q (by omega)) (fun hk9 => hq _ ?_)
    rw [hG.2.2.1 k hk9]
    omega
  · rw [List.getElem?_append_right (by omega)] at hk
    have hz0 : k - hp.length < 1 := (List.getElem?_eq_some_iff.mp hk).1
    have hk0 : k = hp.length := by omega
    subst hk0
    rw [Nat.sub_self] at hk
    cases hk
    exact hc
theorem j_H_ad (hG : j_G g ad B) (h : j_H g ad B D cA cl U H hp) : ad hp.length = H.size := by
  rw [hG.2.2.1 _ h.1]
  have := h.2.1
  have := h.1
  omega
theorem j_G.ref (hG : j_G g ad B) {k : Nat} (h : 9 ≤ k) : g k = .ref (ad k) := hG.1 k (by omega)
theorem j_G.cat (hG : j_G g ad B) (k : Nat) : (g k).category = 1 := by
  by_cases h : k = 8
  · subst h
    rcases hG.2.1 with e | ⟨a, e⟩ <;> rw [e] <;> rfl
  · rw [hG.1 k h]
    rfl
theorem j_rv_cat (hG : j_G g ad B) (v : Value) : (j_rv g v).category = v.category := by
  cases v with
  | ref k => exact hG.cat k
  | _ => rfl
theorem j_cats (hG : j_G g ad B) (st : List Value) : ((st.map (j_rv g)).map fun v => v.category) = st.map fun v => v.category := by
  rw [List.map_map]
  exact List.map_congr_left (fun v _ => j_rv_cat hG v)
theorem j_cat1_eq (hG : j_G g ad B) {v : Value} (h : j_cat1 v = true) : (j_rv g v).category = 1 := by
  rw [j_rv_cat hG]
  cases v <;> first | rfl | cases h
theorem j_put1_sl (hG : j_G g ad B) (lv : jL) (i : Nat) (v : Value) : j_sl g (j_put1 lv i v) = (i, j_rv g v) :: (j_sl g lv).filter (fun q => !(q.1 == i) && !(q.1 + 1 == i && q.2.category == 2)) := by
  unfold j_sl j_put1
  rw [List.map_cons, List.filter_map]
  congr 2
  apply List.filter_congr
  intro q _
  simp [Function.comp, j_rv_cat hG]
theorem j_put2_sl (hG : j_G g ad B) (lv : jL) (i : Nat) (v : Value) : j_sl g (j_put2 lv i v) = (i, j_rv g v) :: (j_sl g lv).filter (fun q => !(q.1 == i) && (!(q.1 == i + 1) && !(q.1 + 1 == i && q.2.category == 2))) := by
  unfold j_sl j_put2
  rw [List.map_cons, List.filter_map]
  congr 2
  apply List.filter_congr
  intro q _
  simp [Function.comp, j_rv_cat hG]
theorem j_at_some {a : Nat} {ts : List Nat} {l : List Value} (h : j_at hp a ts = some l) : ∃ t, hp[a]? = some (true, t, l) ∧ t ∈ ts := by
  unfold j_at at h
  rw [j_nth_eq] at h
  split at h
  · rename_i t l' he
    cases hb : ts.any (fun z => Nat.beq z t) with
    | false => rw [hb] at h; cases h
    | true =>
      rw [hb] at h
      cases h
      obtain ⟨z, hz, e⟩ := List.any_eq_true.mp hb
      exact ⟨t, he, by rw [← Nat.eq_of_beq_eq_true e]; exact hz⟩
  · cases h
/-- an array as the large machine sees it -/
theorem j_arr (hG : j_G g ad B) (hK : va_K D cl (j_tys cA) U) (h : j_H g ad B D cA cl U H hp) {a t : Nat} {l : List Value} (hn : hp[a]? = some (true, t, l)) : ∃ cell : Cell, g a = .ref (ad a) ∧ H[ad a]? = some cell ∧ U.isArrayOf cell (j_ty t) ∧ cell.vm ≠ .unknown ∧ l.length ≤ cell.slots.size ∧ cell.slots.size.toInt32 = Int32.ofNat l.length ∧ ∀ (j : Nat) (v : Value), l[j]? = some v → cell.slots[j]? = some (j_rv g v) := by
  have h1 := h.2.2.2 a _ hn
  have h8 : a ≠ 8 := fun e => by rw [e, h.2.2.1] at hn; cases hn
  unfold j_in at h1
  by_cases hk : a < 9
  · rw [if_pos hk] at h1
    obtain ⟨-, cell, h2⟩ := h1.1 rfl
    exact ⟨cell, hG.1 a h8, h2⟩
  · rw [if_neg hk] at h1
    obtain ⟨ht, h2⟩ := h1.1 rfl
    refine ⟨_, hG.1 a h8, h2, And.intro ((hK.2 t _ (j_tys_at cA ht)).1 _ _) ?_⟩
    refine ⟨(fun e => by cases e), (by rw [arrV_size]; exact Nat.le_refl _), (by rw [arrV_size]), fun j v hv => ?_⟩
    have hj := (List.getElem?_eq_some_iff.mp hv).1
    rw [arrV_read _ _ hj]
    simp [List.getD_eq_getElem?_getD, hv]
/-- a store into a new array -/
theorem j_stored (hG : j_G g ad B) (h : j_H g ad B D cA cl U H hp) {a t i : Nat} {l : List Value} {v : Value} (hn : hp[a]? = some (true, t, l)) (h9 : 9 ≤ a) (hi : i < l.length) (hz : H1.size = H.size) (hq : ∀ q : Nat, q ≠ ad a → H1[q]? = H[q]?)
    (he : ∀ cell : Cell, H[ad a]? = some cell → H1[ad a]? = some (cell.setSlot i (j_rv g v))) : j_H g ad B D cA cl U H1 (j_set (true, t, j_set v l i) hp a) := by
  refine h.put hG hn h9 hz hq ?_
  have h1 := h.2.2.2 a _ hn
  unfold j_in at h1 ⊢
  rw [if_neg (by omega)] at h1 ⊢
  obtain ⟨ht, h2⟩ := h1.1 rfl
  refine ⟨fun _ => ⟨ht, ?_⟩, (fun e => by cases e)⟩
  rw [he _ h2, arrV_store, j_set_eq]
  congr 1
  simp only [List.length_set]
  congr 1
  funext j
  unfold updV
  by_cases hj : j = i
  · subst hj
    simp [List.getD_eq_getElem?_getD, hi]
  · simp [List.getD_eq_getElem?_getD, List.getElem?_set_ne (Ne.symm hj), hj]
end JW
theorem j_go_some {pc len : Nat} {lv : jL} {hp : List jc} {r : Option (List Value)} {X : jX} (h : j_go pc len lv hp r = some X) : ∃ st', r = some st' ∧ X = (pc + len, lv, st', hp, 0, 0) := by
  cases r with
  | none => cases h
  | some q => exact ⟨q, rfl, (Option.some.inj h).symm⟩
theorem j_ii_some {f : Int32 → Int32 → Int32} {st q : List Value} (h : j_ii f st = some q) : ∃ x y r, st = .int y :: .int x :: r ∧ q = .int (f x y) :: r := by
  unfold j_ii at h
  split at h
  · exact ⟨_, _, _, rfl, (Option.some.inj h).symm⟩
  · cases h
theorem j_id_some {f : Int32 → Int32 → Int32} {st q : List Value} (h : j_id f st = some q) : ∃ x y r, st = .int y :: .int x :: r ∧ q = .int (f x y) :: r ∧ ¬ y = 0 := by
  unfold j_id at h
  split at h
  · split at h
    · cases h
    · exact ⟨_, _, _, rfl, (Option.some.inj h).symm, by assumption⟩
  · cases h
theorem j_ll_some {f : Int64 → Int64 → Int64} {st q : List Value} (h : j_ll f st = some q) : ∃ x y r, st = .long y :: .long x :: r ∧ q = .long (f x y) :: r := by
  unfold j_ll at h
  split at h
  · exact ⟨_, _, _, rfl, (Option.some.inj h).symm⟩
  · cases h
theorem j_ld_some {f : Int64 → Int64 → Int64} {st q : List Value} (h : j_ld f st = some q) : ∃ x y r, st = .long y :: .long x :: r ∧ q = .long (f x y) :: r ∧ ¬ y = 0 := by
  unfold j_ld at h
  split at h
  · split at h
    · cases h
    · exact ⟨_, _, _, rfl, (Option.some.inj h).symm, by assumption⟩
  · cases h
theorem j_li_some {f : Int64 → Int32 → Int64} {st q : List Value} (h : j_li f st = some q) : ∃ x y r, st = .int y :: .long x :: r ∧ q = .long (f x y) :: r := by
  unfold j_li at h
  split at h
  · exact ⟨_, _, _, rfl, (Option.some.inj h).symm⟩
  · cases h
theorem j_ald_some {hp : List jc} {ts : List Nat} {st q : List Value} (h : j_ald hp ts st = some q) : ∃ i a r t l v, st = .int i :: .ref a :: r ∧ hp[a]? = some (true, t, l) ∧ t ∈ ts ∧ ¬ i < 0 ∧ l[i.toNatClampNeg]? = some v ∧ q = v :: r := by
  unfold j_ald at h
  split at h
  · rename_i i a r
    split at h
    · rename_i l hl
      split at h
      · cases h
      · rename_i hi
        split at h
        · rename_i v hv
          obtain ⟨t, h1, h2⟩ := j_at_some hl
          rw [j_nth_eq] at hv
          exact ⟨i, a, r, t, l, v, rfl, h1, h2, hi, hv, (Option.some.inj h).symm⟩
        · cases h
    · cases h
  · cases h
theorem j_ast_some {hp hp' : List jc} {a t : Nat} {i : Int32} {v : Value} (h : j_ast hp a t i v = some hp') : ∃ l, hp[a]? = some (true, t, l) ∧ 9 ≤ a ∧ ¬ i < 0 ∧ i.toNatClampNeg < l.length ∧ hp' = j_set (true, t, j_set v l i.toNatClampNeg) hp a := by
  unfold j_ast at h
  cases h9 : Nat.ble 9 a with
  | false => rw [h9] at h; cases h
  | true =>
    rw [h9] at h
    have h' : (match j_at hp a [t] with
      | some l => if i < 0 then none else cond (Nat.blt i.toNatClampNeg l.length) (some (j_set (true, t, j_set v l i.toNatClampNeg) hp a)) none
      | none => none) = some hp' := h
    split at h'
    · rename_i l hl
      split at h'
      · cases h'
      · rename_i hi
        cases hb : Nat.blt i.toNatClampNeg l.length with
        | false => rw [hb] at h'; cases h'
        | true =>
          rw [hb] at h'
          obtain ⟨t', h1, h2⟩ := j_at_some hl
          have e : t' = t := by simpa using h2
          subst e
          exact ⟨l, h1, Nat.le_of_ble_eq_true h9, hi, Nat.le_of_ble_eq_true hb, (Option.some.inj h').symm⟩
    · cases h'
end
section
/-! THE SMALL MACHINE'S STEP AGAINST THE LARGE ONE'S ROWS. -/
abbrev jK : Type := List (String × Nat × String × Value) × List Cond
def j_len : Instr → Nat
  | .bipush _ | .iload _ | .lload _ | .aload _ | .istore _ | .lstore _ | .astore _ | .newarray _ | .ldc _ => 2
  | .sipush _ | .iinc _ _ | .ifCond _ _ | .if_icmp _ _ | .goto _ | .getfield _ | .putfield _ | .getstatic _ | .ldc2_w _ | .new _ | .anewarray _ | .invokevirtual _ | .invokespecial _ | .invokestatic _ => 3
  | _ => 1
def j_sf : Nat → String × String := fun i => match i with | 0 => ("value", "[B") | _ => ("coder", "B")
/-- what an entry of the code needs of the tables; 'own', 'nm': of the method that holds it; 'cl': the kinds of objects; 'TW': the words; 'zs': statics; 'ks': string constants -/
def j_lk (own nm : String) (cl : List vw_C) (TW : List Cond) (zs : List (String × String × String × Value)) (ks : jK) (pc : Nat) (e : jE) : Prop := match e.1 with
  | .ifCond _ off => (pc : Int) + off = (e.2.2.1 : Int)
  | .if_icmp _ off => (pc : Int) + off = (e.2.2.1 : Int)
  | .goto off => (pc : Int) + off = (e.2.2.1 : Int)
  | .lookupswitch _ ps => (ps.toList.zip (ps.toList.drop 1)).all (fun (a, next) => a.1 < next.1) = true
  | .getfield i => (e.2.2.1 = 99 ∧ e.2.2.2.1 < 2 ∧ Cond.fieldLink own i "java/lang/String" (j_sf e.2.2.2.1).1 (j_sf e.2.2.2.1).2 ∈ TW) ∨ (¬ e.2.2.1 = 99 ∧ ∃ (C : String) (T : u_T) (N : Nat), cl[e.2.2.1]? = some (C, T, N) ∧ e.2.2.2.1 < N ∧ (Cond.fieldLink own i (T e.2.2.2.1).1 (T e.2.2.2.1).2.1 (T e.2.2.2.1).2.2.1 ∈ TW ∨ ∃ host, Cond.fieldLinkNest own i (T e.2.2.2.1).1 (T e.2.2.2.1).2.1 (T e.2.2.2.1).2.2.1 host ∈ ks.2))
  | .putfield i => ¬ e.2.2.1 = 99 ∧ ∃ (C : String) (T : u_T) (N : Nat), cl[e.2.2.1]? = some (C, T, N) ∧ e.2.2.2.1 < N ∧ Cond.fieldLink own i (T e.2.2.2.1).1 (T e.2.2.2.1).2.1 (T e.2.2.2.1).2.2.1 ∈ TW ∧ parseFieldDescriptor (T e.2.2.2.1).2.2.1 = some e.2.2.2.2.2 ∧ ((T e.2.2.2.1).2.2.2 = true → nm = "<init>" ∧ (T e.2.2.2.1).1 = own)
  | .getstatic i => ∃ C n d, (C, n, d, e.2.2.2.2.1) ∈ zs ∧ Cond.fieldLink own i C n d ∈ TW
  | .ldc2_w i => ∃ x, e.2.2.2.2.1 = .long x ∧ Cond.constantLong own i x ∈ TW
  | .ldc i => ∃ tx, (own, i, tx, e.2.2.2.2.1) ∈ ks.1
  | .new i => ∃ (C : String) (T : u_T) (N : Nat), cl[e.2.2.1]? = some (C, T, N) ∧ Cond.classLink own i C ∈ TW ∧ Cond.instantiable C N ∈ TW ∧ Cond.initialized C ∈ TW
  | .newarray t => newarray.typeOf t = j_ty e.2.2.1 ∧ e.2.2.1 < 4 ∧ Cond.arrayClass (j_ty e.2.2.1) ∈ TW ∧ e.2.2.2.2.1 = defaultValue (j_ty e.2.2.1)
  | .anewarray i => Cond.classLink own i "HundredWords$Row" ∈ TW ∧ Cond.arrayOver (.object "HundredWords$Row") ∈ ks.2
  | _ => True
/-- what is said once of each kind of object: its words, its fields' types, their names apart, its cells when made -/
def j_kd (cl : List vw_C) (TW : List Cond) (df : Nat → List Value) : Prop := ∀ (ci : Nat) (C : String) (T : u_T) (N : Nat), cl[ci]? = some (C, T, N) →
  (∀ x ∈ u_ws C T N, x ∈ TW) ∧ (∃ ty0 : Nat → FieldType, (∀ k, k < N → parseFieldDescriptor (T k).2.2.1 = some (ty0 k)) ∧ (df ci).length = N ∧ ∀ k, k < N → (df ci)[k]? = some (defaultValue (ty0 k))) ∧ (∀ a, a < N → ∀ b, b < N → a ≠ b → (T a).2.1 ≠ (T b).2.1)
def j_St (g : Nat → Value) (B : Nat) (zs : List (String × String × String × Value)) (U : State) (H : Heap) : Prop := ∀ q ∈ zs, va_Z q.1 q.2.1 q.2.2.1 (j_rv g q.2.2.2) (j_A B) U H
def j_isN : Cond → Bool | .fieldLinkNest _ _ _ _ _ _ => true | .methodLinkNest _ _ _ _ => true | .arrayOver (.object _) => true | _ => false
def j_Ks (g : Nat → Value) (ks : jK) (U : State) : Prop := (∀ q ∈ ks.1, ∃ a : Nat, j_rv g q.2.2.2 = .ref a ∧ vk_R q.1 q.2.1 q.2.2.1 a U) ∧ ∀ x ∈ ks.2, j_isN x = true ∧ va_Nw x U
/-- where a walk stands: the machine, the code, the tables -/
def j_Cx (g : Nat → Value) (ad : Nat → Nat) (B : Nat) (D : va_G) (cA : Nat → ClassId) (cl : List vw_C) (TW : List Cond) (zs : List (String × String × String × Value)) (ks : jK) (own nm : String) (cc : ByteArray) (nL : Nat) (p : Program) (s : State) (m : MethodId) (args : Array Value) (meth : Method) (c : Code) : Prop :=
  j_G g ad B ∧ p.tables.exec = Jvm.exec ∧ c.code = cc ∧ c.maxLocals = nL ∧ s.vm.findClass own = some m.cls ∧ (∀ x ∈ TW, x.before args s = true) ∧ meth.locks = false ∧ (nm = "<init>" → meth.name = "<init>") ∧ va_K D cl (j_tys cA) s ∧ j_St g B zs s s.heap ∧ j_Ks g ks s ∧ B ≤ s.heap.size
theorem j_rv_fit (g : Nat → Value) (ad : Nat → Nat) (B : Nat) (hG : j_G g ad B) {ty : FieldType} {v : Value} (h : j_fit ty v = true) : narrow ty (j_rv g v) = j_rv g v ∧ fits ty (j_rv g v) = true := by
  have hg : ∀ k, g k = .null ∨ ∃ a, g k = .ref a := fun k => by
    by_cases e : k = 8
    · rw [e]; exact hG.2.1
    · exact Or.inr ⟨_, hG.1 k e⟩
  cases v with
  | int x =>
    cases ty with
    | int => exact ⟨rfl, rfl⟩
    | boolean =>
      simp only [j_fit, Bool.or_eq_true, decide_eq_true_eq] at h
      rcases h with rfl | rfl <;> exact ⟨rfl, rfl⟩
    | byte =>
      simp only [j_fit, Bool.and_eq_true, decide_eq_true_eq] at h
      exact ⟨by show Value.int x.toInt8.toInt32 = .int x; rw [h.1.1], by simp [j_rv, fits, h.1.2, h.2]⟩
    | char =>
      simp only [j_fit, Bool.and_eq_true, decide_eq_true_eq] at h
      refine ⟨?_, by simp [j_rv, fits, h.1.2, h.2]⟩
      show Value.int _ = Value.int x
      congr 1
      first | exact h.1.1 | (rw [← h.1.1]; first | rfl | simp) | (have := h.1.1; simp_all)
    | _ => cases h
  | long x =>
    cases ty <;> first | exact ⟨rfl, rfl⟩ | cases h
  | ref k =>
    cases ty with
    | object n =>
      show narrow (.object n) (g k) = g k ∧ fits (.object n) (g k) = true
      rcases hg k with e | ⟨a, e⟩ <;> rw [e] <;> exact ⟨rfl, rfl⟩
    | array n =>
      show narrow (.array n) (g k) = g k ∧ fits (.array n) (g k) = true
      rcases hg k with e | ⟨a, e⟩ <;> rw [e] <;> exact ⟨rfl, rfl⟩
    | _ => cases h
  | _ => cases ty <;> cases h
theorem arrV_congr {cI : ClassId} {N : Nat} {f h : Nat → Value} (e : ∀ j, j < N → f j = h j) : arrV cI N f = arrV cI N h := by
  unfold arrV
  congr 1
  apply Array.ext
  · simp
  · intro i h1 h2
    simp only [Array.getElem_ofFn]
    exact e i (by simpa using h1)
section JS
variable {g : Nat → Value} {ad : Nat → Nat} {B : Nat} {D : va_G} {cA : Nat → ClassId} {cl : List vw_C} {TW : List Cond} {zs : List (String × String × String × Value)} {ks : jK} {own nm : String} {cc : ByteArray} {nL : Nat} {df : Nat → List Value}
variable {p : Program} {l : Launch} {e : Env} {R : Room} {s : State} {m : MethodId} {args : Array Value} {below : List Frame} {meth : Method} {c : Code} {H : Heap} {locs : List Loc} {cells slots : Nat} {Q : State → Prop}
variable {pc pc' : Nat} {len l1 l2 dc ds : Nat} {val : Value} {ty : FieldType} {lv lv' : jL} {st st' : List Value} {hp hp' : List jc} {ls : Array Slot}
theorem j_s_iconst {n : Int} (hC : j_Cx g ad B D cA cl TW zs ks own nm cc nL p s m args meth c) (hkd : j_kd cl TW df ∧ cl[99]? = none ∧ ∀ rr : vw_C, cl[4]? = some rr → rr.1 = "HundredWords$Row") (hd : decode cc pc = .ok (.iconst n, len)) (hlen : len = j_len (.iconst n)) (hlk : j_lk own nm cl TW zs ks pc (.iconst n, len, l1, l2, val, ty)) (h : jstep df nL pc (.iconst n, len, l1, l2, val, ty) lv st hp = some (pc', lv', st', hp', dc, ds)) (hl : lv_has ls nL (j_sl g lv)) (hH : j_H g ad B D cA cl s H hp) (hS : va_S (j_A B) s.heap H locs) (hc : cells + dc ≤ R.cells) (hs : slots + ds ≤ R.slots)
    (kk : ∀ (H' : Heap) (locs' : List Loc) (ls' : Array Slot), lv_has ls' nL (j_sl g lv') → j_H g ad B D cA cl s H' hp' → va_S (j_A B) s.heap H' locs' → W p l e R s m args below meth c H' locs' (cells + dc) (slots + ds) Q (F0 m pc' ls' (st'.map (j_rv g)))) : W p l e R s m args below meth c H locs cells slots Q (F0 m pc ls (st.map (j_rv g))) := by
  obtain ⟨hG, hx, hb, hml, hown, hts, hlocks, hname, hK, hSt, hKs, hBs⟩ := hC
  subst hlen
  have h : j_go pc 1 lv hp (some (.int (Int32.ofInt n) :: st)) = some (pc', lv', st', hp', dc, ds) := h
  obtain ⟨q, hq, hX⟩ := j_go_some h
  cases hq
  cases hX
  exact lv_iconst hx hb hd rfl (kk H locs ls hl hH hS)
theorem j_s_bipush {n : Int} (hC : j_Cx g ad B D cA cl TW zs ks own nm cc nL p s m args meth c) (hkd : j_kd cl TW df ∧ cl[99]? = none ∧ ∀ rr : vw_C, cl[4]? = some rr → rr.1 = "HundredWords$Row") (hd : decode cc pc = .ok (.bipush n, len)) (hlen : len = j_len (.bipush n)) (hlk : j_lk own nm cl TW zs ks pc (.bipush n, len, l1, l2, val, ty)) (h : jstep df nL pc (.bipush n, len, l1, l2, val, ty) lv st hp = some (pc', lv', st', hp', dc, ds)) (hl : lv_has ls nL (j_sl g lv)) (hH : j_H g ad B D cA cl s H hp) (hS : va_S (j_A B) s.heap H locs) (hc : cells + dc ≤ R.cells) (hs : slots + ds ≤ R.slots)
    (kk : ∀ (H' : Heap) (locs' : List Loc) (ls' : Array Slot), lv_has ls' nL (j_sl g lv') → j_H g ad B D cA cl s H' hp' → va_S (j_A B) s.heap H' locs' → W p l e R s m args below meth c H' locs' (cells + dc) (slots + ds) Q (F0 m pc' ls' (st'.map (j_rv g)))) : W p l e R s m args below meth c H locs cells slots Q (F0 m pc ls (st.map (j_rv g))) := by
  obtain ⟨hG, hx, hb, hml, hown, hts, hlocks, hname, hK, hSt, hKs, hBs⟩ := hC
  subst hlen
  have h : j_go pc 2 lv hp (some (.int (Int8.ofInt n).toInt32 :: st)) = some (pc', lv', st', hp', dc, ds) := h
  obtain ⟨q, hq, hX⟩ := j_go_some h
  cases hq
  cases hX
  exact lv_bipush hx hb hd rfl (kk H locs ls hl hH hS)
theorem j_s_sipush {n : Int} (hC : j_Cx g ad B D cA cl TW zs ks own nm cc nL p s m args meth c) (hkd : j_kd cl TW df ∧ cl[99]? = none ∧ ∀ rr : vw_C, cl[4]? = some rr → rr.1 = "HundredWords$Row") (hd : decode cc pc = .ok (.sipush n, len)) (hlen : len = j_len (.sipush n)) (hlk : j_lk own nm cl TW zs ks pc (.sipush n, len, l1, l2, val, ty)) (h : jstep df nL pc (.sipush n, len, l1, l2, val, ty) lv st hp = some (pc', lv', st', hp', dc, ds)) (hl : lv_has ls nL (j_sl g lv)) (hH : j_H g ad B D cA cl s H hp) (hS : va_S (j_A B) s.heap H locs) (hc : cells + dc ≤ R.cells) (hs : slots + ds ≤ R.slots)
    (kk : ∀ (H' : Heap) (locs' : List Loc) (ls' : Array Slot), lv_has ls' nL (j_sl g lv') → j_H g ad B D cA cl s H' hp' → va_S (j_A B) s.heap H' locs' → W p l e R s m args below meth c H' locs' (cells + dc) (slots + ds) Q (F0 m pc' ls' (st'.map (j_rv g)))) : W p l e R s m args below meth c H locs cells slots Q (F0 m pc ls (st.map (j_rv g))) := by
  obtain ⟨hG, hx, hb, hml, hown, hts, hlocks, hname, hK, hSt, hKs, hBs⟩ := hC
  subst hlen
  have h : j_go pc 3 lv hp (some (.int (Int16.ofInt n).toInt32 :: st)) = some (pc', lv', st', hp', dc, ds) := h
  obtain ⟨q, hq, hX⟩ := j_go_some h
  cases hq
  cases hX
  exact lv_sipush hx hb hd rfl (kk H locs ls hl hH hS)
theorem j_s_lconst {n : Fin 2} (hC : j_Cx g ad B D cA cl TW zs ks own nm cc nL p s m args meth c) (hkd : j_kd cl TW df ∧ cl[99]? = none ∧ ∀ rr : vw_C, cl[4]? = some rr → rr.1 = "HundredWords$Row") (hd : decode cc pc = .ok (.lconst n, len)) (hlen : len = j_len (.lconst n)) (hlk : j_lk own nm cl TW zs ks pc (.lconst n, len, l1, l2, val, ty)) (h : jstep df nL pc (.lconst n, len, l1, l2, val, ty) lv st hp = some (pc', lv', st', hp', dc, ds)) (hl : lv_has ls nL (j_sl g lv)) (hH : j_H g ad B D cA cl s H hp) (hS : va_S (j_A B) s.heap H locs) (hc : cells + dc ≤ R.cells) (hs : slots + ds ≤ R.slots)
    (kk : ∀ (H' : Heap) (locs' : List Loc) (ls' : Array Slot), lv_has ls' nL (j_sl g lv') → j_H g ad B D cA cl s H' hp' → va_S (j_A B) s.heap H' locs' → W p l e R s m args below meth c H' locs' (cells + dc) (slots + ds) Q (F0 m pc' ls' (st'.map (j_rv g)))) : W p l e R s m args below meth c H locs cells slots Q (F0 m pc ls (st.map (j_rv g))) := by
  obtain ⟨hG, hx, hb, hml, hown, hts, hlocks, hname, hK, hSt, hKs, hBs⟩ := hC
  subst hlen
  have h : j_go pc 1 lv hp (some (.long (Int64.ofNat (n : Nat)) :: st)) = some (pc', lv', st', hp', dc, ds) := h
  obtain ⟨q, hq, hX⟩ := j_go_some h
  cases hq
  cases hX
  exact lv_lconst hx hb hd rfl (kk H locs ls hl hH hS)
theorem j_s_iload_n {n : Fin 4} (hC : j_Cx g ad B D cA cl TW zs ks own nm cc nL p s m args meth c) (hkd : j_kd cl TW df ∧ cl[99]? = none ∧ ∀ rr : vw_C, cl[4]? = some rr → rr.1 = "HundredWords$Row") (hd : decode cc pc = .ok (.iload_n n, len)) (hlen : len = j_len (.iload_n n)) (hlk : j_lk own nm cl TW zs ks pc (.iload_n n, len, l1, l2, val, ty)) (h : jstep df nL pc (.iload_n n, len, l1, l2, val, ty) lv st hp = some (pc', lv', st', hp', dc, ds)) (hl : lv_has ls nL (j_sl g lv)) (hH : j_H g ad B D cA cl s H hp) (hS : va_S (j_A B) s.heap H locs) (hc : cells + dc ≤ R.cells) (hs : slots + ds ≤ R.slots)
    (kk : ∀ (H' : Heap) (locs' : List Loc) (ls' : Array Slot), lv_has ls' nL (j_sl g lv') → j_H g ad B D cA cl s H' hp' → va_S (j_A B) s.heap H' locs' → W p l e R s m args below meth c H' locs' (cells + dc) (slots + ds) Q (F0 m pc' ls' (st'.map (j_rv g)))) : W p l e R s m args below meth c H locs cells slots Q (F0 m pc ls (st.map (j_rv g))) := by
  obtain ⟨hG, hx, hb, hml, hown, hts, hlocks, hname, hK, hSt, hKs, hBs⟩ := hC
  subst hlen
  obtain ⟨q, hq, hX⟩ := j_go_some h
  split at hq
  · rename_i x hj
    cases hq
    cases hX
    exact lv_iload_n hx hb hd rfl (j_get_ls hl hj) (kk H locs ls hl hH hS)
  · cases hq
theorem j_s_iload {n : Nat} (hC : j_Cx g ad B D cA cl TW zs ks own nm cc nL p s m args meth c) (hkd : j_kd cl TW df ∧ cl[99]? = none ∧ ∀ rr : vw_C, cl[4]? = some rr → rr.1 = "HundredWords$Row") (hd : decode cc pc = .ok (.iload n, len)) (hlen : len = j_len (.iload n)) (hlk : j_lk own nm cl TW zs ks pc (.iload n, len, l1, l2, val, ty)) (h : jstep df nL pc (.iload n, len, l1, l2, val, ty) lv st hp = some (pc', lv', st', hp', dc, ds)) (hl : lv_has ls nL (j_sl g lv)) (hH : j_H g ad B D cA cl s H hp) (hS : va_S (j_A B) s.heap H locs) (hc : cells + dc ≤ R.cells) (hs : slots + ds ≤ R.slots)
    (kk : ∀ (H' : Heap) (locs' : List Loc) (ls' : Array Slot), lv_has ls' nL (j_sl g lv') → j_H g ad B D cA cl s H' hp' → va_S (j_A B) s.heap H' locs' → W p l e R s m args below meth c H' locs' (cells + dc) (slots + ds) Q (F0 m pc' ls' (st'.map (j_rv g)))) : W p l e R s m args below meth c H locs cells slots Q (F0 m pc ls (st.map (j_rv g))) := by
  obtain ⟨hG, hx, hb, hml, hown, hts, hlocks, hname, hK, hSt, hKs, hBs⟩ := hC
  subst hlen
  obtain ⟨q, hq, hX⟩ := j_go_some h
  split at hq
  · rename_i x hj
    cases hq
    cases hX
    exact lv_iload hx hb hd (j_get_ls hl hj) (kk H locs ls hl hH hS)
  · cases hq
theorem j_s_lload_n {n : Fin 4} (hC : j_Cx g ad B D cA cl TW zs ks own nm cc nL p s m args meth c) (hkd : j_kd cl TW df ∧ cl[99]? = none ∧ ∀ rr : vw_C, cl[4]? = some rr → rr.1 = "HundredWords$Row") (hd : decode cc pc = .ok (.lload_n n, len)) (hlen : len = j_len (.lload_n n)) (hlk : j_lk own nm cl TW zs ks pc (.lload_n n, len, l1, l2, val, ty)) (h : jstep df nL pc (.lload_n n, len, l1, l2, val, ty) lv st hp = some (pc', lv', st', hp', dc, ds)) (hl : lv_has ls nL (j_sl g lv)) (hH : j_H g ad B D cA cl s H hp) (hS : va_S (j_A B) s.heap H locs) (hc : cells + dc ≤ R.cells) (hs : slots + ds ≤ R.slots)
    (kk : ∀ (H' : Heap) (locs' : List Loc) (ls' : Array Slot), lv_has ls' nL (j_sl g lv') → j_H g ad B D cA cl s H' hp' → va_S (j_A B) s.heap H' locs' → W p l e R s m args below meth c H' locs' (cells + dc) (slots + ds) Q (F0 m pc' ls' (st'.map (j_rv g)))) : W p l e R s m args below meth c H locs cells slots Q (F0 m pc ls (st.map (j_rv g))) := by
  obtain ⟨hG, hx, hb, hml, hown, hts, hlocks, hname, hK, hSt, hKs, hBs⟩ := hC
  subst hlen
  obtain ⟨q, hq, hX⟩ := j_go_some h
  split at hq
  · rename_i x hj
    cases hq
    cases hX
    exact lv_lload_n hx hb hd rfl (j_get_ls hl hj) (kk H locs ls hl hH hS)
  · cases hq
theorem j_s_lload {n : Nat} (hC : j_Cx g ad B D cA cl TW zs ks own nm cc nL p s m args meth c) (hkd : j_kd cl TW df ∧ cl[99]? = none ∧ ∀ rr : vw_C, cl[4]? = some rr → rr.1 = "HundredWords$Row") (hd : decode cc pc = .ok (.lload n, len)) (hlen : len = j_len (.lload n)) (hlk : j_lk own nm cl TW zs ks pc (.lload n, len, l1, l2, val, ty)) (h : jstep df nL pc (.lload n, len, l1, l2, val, ty) lv st hp = some (pc', lv', st', hp', dc, ds)) (hl : lv_has ls nL (j_sl g lv)) (hH : j_H g ad B D cA cl s H hp) (hS : va_S (j_A B) s.heap H locs) (hc : cells + dc ≤ R.cells) (hs : slots + ds ≤ R.slots)
    (kk : ∀ (H' : Heap) (locs' : List Loc) (ls' : Array Slot), lv_has ls' nL (j_sl g lv') → j_H g ad B D cA cl s H' hp' → va_S (j_A B) s.heap H' locs' → W p l e R s m args below meth c H' locs' (cells + dc) (slots + ds) Q (F0 m pc' ls' (st'.map (j_rv g)))) : W p l e R s m args below meth c H locs cells slots Q (F0 m pc ls (st.map (j_rv g))) := by
  obtain ⟨hG, hx, hb, hml, hown, hts, hlocks, hname, hK, hSt, hKs, hBs⟩ := hC
  subst hlen
  obtain ⟨q, hq, hX⟩ := j_go_some h
  split at hq
  · rename_i x hj
    cases hq
    cases hX
    exact lv_lload hx hb hd (j_get_ls hl hj) (kk H locs ls hl hH hS)
  · cases hq
theorem j_s_aload_n {n : Fin 4} (hC : j_Cx g ad B D cA cl TW zs ks own nm cc nL p s m args meth c) (hkd : j_kd cl TW df ∧ cl[99]? = none ∧ ∀ rr : vw_C, cl[4]? = some rr → rr.1 = "HundredWords$Row") (hd : decode cc pc = .ok (.aload_n n, len)) (hlen : len = j_len (.aload_n n)) (hlk : j_lk own nm cl TW zs ks pc (.aload_n n, len, l1, l2, val, ty)) (h : jstep df nL pc (.aload_n n, len, l1, l2, val, ty) lv st hp = some (pc', lv', st', hp', dc, ds)) (hl : lv_has ls nL (j_sl g lv)) (hH : j_H g ad B D cA cl s H hp) (hS : va_S (j_A B) s.heap H locs) (hc : cells + dc ≤ R.cells) (hs : slots + ds ≤ R.slots)
    (kk : ∀ (H' : Heap) (locs' : List Loc) (ls' : Array Slot), lv_has ls' nL (j_sl g lv') → j_H g ad B D cA cl s H' hp' → va_S (j_A B) s.heap H' locs' → W p l e R s m args below meth c H' locs' (cells + dc) (slots + ds) Q (F0 m pc' ls' (st'.map (j_rv g)))) : W p l e R s m args below meth c H locs cells slots Q (F0 m pc ls (st.map (j_rv g))) := by
  obtain ⟨hG, hx, hb, hml, hown, hts, hlocks, hname, hK, hSt, hKs, hBs⟩ := hC
  subst hlen
  obtain ⟨q, hq, hX⟩ := j_go_some h
  split at hq
  · rename_i x hj
    cases hq
    cases hX
    have hj' := j_get_ls hl hj
    have k2 := (kk H locs ls hl hH hS)
    change ls[_]? = some (Slot.val (g x)) at hj'
    change W p l e R s m args below meth c H locs _ _ Q (F0 m _ ls (g x :: st.map (j_rv g))) at k2
    have hg8 : g x = .null ∨ ∃ a, g x = .ref a := by
      by_cases h8 : x = 8
      · rw [h8]; exact hG.2.1
      · exact Or.inr ⟨_, hG.1 x h8⟩
    rcases hg8 with e8 | ⟨a, e8⟩
    · rw [e8] at hj' k2
      exact lv_aload_nN hx hb hd rfl hj' k2
    · rw [e8] at hj' k2
      exact lv_aload_n hx hb hd rfl hj' k2
  · cases hq
theorem j_s_aload {n : Nat} (hC : j_Cx g ad B D cA cl TW zs ks own nm cc nL p s m args meth c) (hkd : j_kd cl TW df ∧ cl[99]? = none ∧ ∀ rr : vw_C, cl[4]? = some rr → rr.1 = "HundredWords$Row") (hd : decode cc pc = .ok (.aload n, len)) (hlen : len = j_len (.aload n)) (hlk : j_lk own nm cl TW zs ks pc (.aload n, len, l1, l2, val, ty)) (h : jstep df nL pc (.aload n, len, l1, l2, val, ty) lv st hp = some (pc', lv', st', hp', dc, ds)) (hl : lv_has ls nL (j_sl g lv)) (hH : j_H g ad B D cA cl s H hp) (hS : va_S (j_A B) s.heap H locs) (hc : cells + dc ≤ R.cells) (hs : slots + ds ≤ R.slots)
    (kk : ∀ (H' : Heap) (locs' : List Loc) (ls' : Array Slot), lv_has ls' nL (j_sl g lv') → j_H g ad B D cA cl s H' hp' → va_S (j_A B) s.heap H' locs' → W p l e R s m args below meth c H' locs' (cells + dc) (slots + ds) Q (F0 m pc' ls' (st'.map (j_rv g)))) : W p l e R s m args below meth c H locs cells slots Q (F0 m pc ls (st.map (j_rv g))) := by
  obtain ⟨hG, hx, hb, hml, hown, hts, hlocks, hname, hK, hSt, hKs, hBs⟩ := hC
  subst hlen
  obtain ⟨q, hq, hX⟩ := j_go_some h
  split at hq
  · rename_i x hj
    cases hq
    cases hX
    have hj' := j_get_ls hl hj
    have k2 := (kk H locs ls hl hH hS)
    change ls[_]? = some (Slot.val (g x)) at hj'
    change W p l e R s m args below meth c H locs _ _ Q (F0 m _ ls (g x :: st.map (j_rv g))) at k2
    have hg8 : g x = .null ∨ ∃ a, g x = .ref a := by
      by_cases h8 : x = 8
      · rw [h8]; exact hG.2.1
      · exact Or.inr ⟨_, hG.1 x h8⟩
    rcases hg8 with e8 | ⟨a, e8⟩
    · rw [e8] at hj' k2
      exact lv_aloadN hx hb hd hj' k2
    · rw [e8] at hj' k2
      exact lv_aload hx hb hd hj' k2
  · cases hq
theorem j_s_istore_n {n : Fin 4} (hC : j_Cx g ad B D cA cl TW zs ks own nm cc nL p s m args meth c) (hkd : j_kd cl TW df ∧ cl[99]? = none ∧ ∀ rr : vw_C, cl[4]? = some rr → rr.1 = "HundredWords$Row") (hd : decode cc pc = .ok (.istore_n n, len)) (hlen : len = j_len (.istore_n n)) (hlk : j_lk own nm cl TW zs ks pc (.istore_n n, len, l1, l2, val, ty)) (h : jstep df nL pc (.istore_n n, len, l1, l2, val, ty) lv st hp = some (pc', lv', st', hp', dc, ds)) (hl : lv_has ls nL (j_sl g lv)) (hH : j_H g ad B D cA cl s H hp) (hS : va_S (j_A B) s.heap H locs) (hc : cells + dc ≤ R.cells) (hs : slots + ds ≤ R.slots)
    (kk : ∀ (H' : Heap) (locs' : List Loc) (ls' : Array Slot), lv_has ls' nL (j_sl g lv') → j_H g ad B D cA cl s H' hp' → va_S (j_A B) s.heap H' locs' → W p l e R s m args below meth c H' locs' (cells + dc) (slots + ds) Q (F0 m pc' ls' (st'.map (j_rv g)))) : W p l e R s m args below meth c H locs cells slots Q (F0 m pc ls (st.map (j_rv g))) := by
  obtain ⟨hG, hx, hb, hml, hown, hts, hlocks, hname, hK, hSt, hKs, hBs⟩ := hC
  subst hlen
  cases st with
  | nil => cases h
  | cons v r =>
    cases v with
    | int x =>
      change cond (Nat.blt _ nL) (some _) none = some _ at h
      cases hb1 : Nat.blt (n : Nat) nL with
      | false => rw [hb1] at h; cases h
      | true =>
        rw [hb1] at h
        cases h
        exact lv_istore_n hx hb hd rfl hl (Nat.le_of_ble_eq_true hb1) (j_put1_sl hG lv n (.int x)).symm (fun ls' hl' => kk H locs ls' hl' hH hS)
    | _ => cases h
theorem j_s_istore {n : Nat} (hC : j_Cx g ad B D cA cl TW zs ks own nm cc nL p s m args meth c) (hkd : j_kd cl TW df ∧ cl[99]? = none ∧ ∀ rr : vw_C, cl[4]? = some rr → rr.1 = "HundredWords$Row") (hd : decode cc pc = .ok (.istore n, len)) (hlen : len = j_len (.istore n)) (hlk : j_lk own nm cl TW zs ks pc (.istore n, len, l1, l2, val, ty)) (h : jstep df nL pc (.istore n, len, l1, l2, val, ty) lv st hp = some (pc', lv', st', hp', dc, ds)) (hl : lv_has ls nL (j_sl g lv)) (hH : j_H g ad B D cA cl s H hp) (hS : va_S (j_A B) s.heap H locs) (hc : cells + dc ≤ R.cells) (hs : slots + ds ≤ R.slots)
    (kk : ∀ (H' : Heap) (locs' : List Loc) (ls' : Array Slot), lv_has ls' nL (j_sl g lv') → j_H g ad B D cA cl s H' hp' → va_S (j_A B) s.heap H' locs' → W p l e R s m args below meth c H' locs' (cells + dc) (slots + ds) Q (F0 m pc' ls' (st'.map (j_rv g)))) : W p l e R s m args below meth c H locs cells slots Q (F0 m pc ls (st.map (j_rv g))) := by
  obtain ⟨hG, hx, hb, hml, hown, hts, hlocks, hname, hK, hSt, hKs, hBs⟩ := hC
  subst hlen
  cases st with
  | nil => cases h
  | cons v r =>
    cases v with
    | int x =>
      change cond (Nat.blt _ nL) (some _) none = some _ at h
      cases hb1 : Nat.blt (n : Nat) nL with
      | false => rw [hb1] at h; cases h
      | true =>
        rw [hb1] at h
        cases h
        exact lv_istore hx hb hd hl (Nat.le_of_ble_eq_true hb1) (j_put1_sl hG lv n (.int x)).symm (fun ls' hl' => kk H locs ls' hl' hH hS)
    | _ => cases h
theorem j_s_astore_n {n : Fin 4} (hC : j_Cx g ad B D cA cl TW zs ks own nm cc nL p s m args meth c) (hkd : j_kd cl TW df ∧ cl[99]? = none ∧ ∀ rr : vw_C, cl[4]? = some rr → rr.1 = "HundredWords$Row") (hd : decode cc pc = .ok (.astore_n n, len)) (hlen : len = j_len (.astore_n n)) (hlk : j_lk own nm cl TW zs ks pc (.astore_n n, len, l1, l2, val, ty)) (h : jstep df nL pc (.astore_n n, len, l1, l2, val, ty) lv st hp = some (pc', lv', st', hp', dc, ds)) (hl : lv_has ls nL (j_sl g lv)) (hH : j_H g ad B D cA cl s H hp) (hS : va_S (j_A B) s.heap H locs) (hc : cells + dc ≤ R.cells) (hs : slots + ds ≤ R.slots)
    (kk : ∀ (H' : Heap) (locs' : List Loc) (ls' : Array Slot), lv_has ls' nL (j_sl g lv') → j_H g ad B D cA cl s H' hp' → va_S (j_A B) s.heap H' locs' → W p l e R s m args below meth c H' locs' (cells + dc) (slots + ds) Q (F0 m pc' ls' (st'.map (j_rv g)))) : W p l e R s m args below meth c H locs cells slots Q (F0 m pc ls (st.map (j_rv g))) := by
  obtain ⟨hG, hx, hb, hml, hown, hts, hlocks, hname, hK, hSt, hKs, hBs⟩ := hC
  subst hlen
  cases st with
  | nil => cases h
  | cons v r =>
    cases v with
    | ref x =>
      change cond (Nat.blt _ nL && Nat.ble 9 x) (some _) none = some _ at h
      cases hb1 : Nat.blt (n : Nat) nL && Nat.ble 9 x with
      | false => rw [hb1] at h; cases h
      | true =>
        rw [hb1] at h
        cases h
        rw [Bool.and_eq_true] at hb1
        have h9 : g x = .ref (ad x) := hG.ref (Nat.le_of_ble_eq_true hb1.2)
        show W p l e R s m args below meth c H locs _ _ Q (F0 m _ ls (g x :: _))
        rw [h9]
        exact lv_astore_n hx hb hd rfl hl (Nat.le_of_ble_eq_true hb1.1) ((j_put1_sl hG lv n (.ref x)).trans (by show (_, g x) :: _ = _; rw [h9])).symm (fun ls' hl' => kk H locs ls' hl' hH hS)
    | _ => cases h
theorem j_s_astore {n : Nat} (hC : j_Cx g ad B D cA cl TW zs ks own nm cc nL p s m args meth c) (hkd : j_kd cl TW df ∧ cl[99]? = none ∧ ∀ rr : vw_C, cl[4]? = some rr → rr.1 = "HundredWords$Row") (hd : decode cc pc = .ok (.astore n, len)) (hlen : len = j_len (.astore n)) (hlk : j_lk own nm cl TW zs ks pc (.astore n, len, l1, l2, val, ty)) (h : jstep df nL pc (.astore n, len, l1, l2, val, ty) lv st hp = some (pc', lv', st', hp', dc, ds)) (hl : lv_has ls nL (j_sl g lv)) (hH : j_H g ad B D cA cl s H hp) (hS : va_S (j_A B) s.heap H locs) (hc : cells + dc ≤ R.cells) (hs : slots + ds ≤ R.slots)
    (kk : ∀ (H' : Heap) (locs' : List Loc) (ls' : Array Slot), lv_has ls' nL (j_sl g lv') → j_H g ad B D cA cl s H' hp' → va_S (j_A B) s.heap H' locs' → W p l e R s m args below meth c H' locs' (cells + dc) (slots + ds) Q (F0 m pc' ls' (st'.map (j_rv g)))) : W p l e R s m args below meth c H locs cells slots Q (F0 m pc ls (st.map (j_rv g))) := by
  obtain ⟨hG, hx, hb, hml, hown, hts, hlocks, hname, hK, hSt, hKs, hBs⟩ := hC
  subst hlen
  cases st with
  | nil => cases h
  | cons v r =>
    cases v with
    | ref x =>
      change cond (Nat.blt _ nL && Nat.ble 9 x) (some _) none = some _ at h
      cases hb1 : Nat.blt (n : Nat) nL && Nat.ble 9 x with
      | false => rw [hb1] at h; cases h
      | true =>
        rw [hb1] at h
        cases h
        rw [Bool.and_eq_true] at hb1
        have h9 : g x = .ref (ad x) := hG.ref (Nat.le_of_ble_eq_true hb1.2)
        show W p l e R s m args below meth c H locs _ _ Q (F0 m _ ls (g x :: _))
        rw [h9]
        exact lv_astore hx hb hd hl (Nat.le_of_ble_eq_true hb1.1) ((j_put1_sl hG lv n (.ref x)).trans (by show (_, g x) :: _ = _; rw [h9])).symm (fun ls' hl' => kk H locs ls' hl' hH hS)
    | _ => cases h
theorem j_s_lstore_n {n : Fin 4} (hC : j_Cx g ad B D cA cl TW zs ks own nm cc nL p s m args meth c) (hkd : j_kd cl TW df ∧ cl[99]? = none ∧ ∀ rr : vw_C, cl[4]? = some rr → rr.1 = "HundredWords$Row") (hd : decode cc pc = .ok (.lstore_n n, len)) (hlen : len = j_len (.lstore_n n)) (hlk : j_lk own nm cl TW zs ks pc (.lstore_n n, len, l1, l2, val, ty)) (h : jstep df nL pc (.lstore_n n, len, l1, l2, val, ty) lv st hp = some (pc', lv', st', hp', dc, ds)) (hl : lv_has ls nL (j_sl g lv)) (hH : j_H g ad B D cA cl s H hp) (hS : va_S (j_A B) s.heap H locs) (hc : cells + dc ≤ R.cells) (hs : slots + ds ≤ R.slots)
    (kk : ∀ (H' : Heap) (locs' : List Loc) (ls' : Array Slot), lv_has ls' nL (j_sl g lv') → j_H g ad B D cA cl s H' hp' → va_S (j_A B) s.heap H' locs' → W p l e R s m args below meth c H' locs' (cells + dc) (slots + ds) Q (F0 m pc' ls' (st'.map (j_rv g)))) : W p l e R s m args below meth c H locs cells slots Q (F0 m pc ls (st.map (j_rv g))) := by
  obtain ⟨hG, hx, hb, hml, hown, hts, hlocks, hname, hK, hSt, hKs, hBs⟩ := hC
  subst hlen
  cases st with
  | nil => cases h
  | cons v r =>
    cases v with
    | long x =>
      change cond (Nat.blt _ nL) (some _) none = some _ at h
      cases hb1 : Nat.blt ((n : Nat) + 1) nL with
      | false => rw [hb1] at h; cases h
      | true =>
        rw [hb1] at h
        cases h
        exact lv_lstore_n hx hb hd rfl hl (Nat.le_of_ble_eq_true hb1) (j_put2_sl hG lv n (.long x)).symm (fun ls' hl' => kk H locs ls' hl' hH hS)
    | _ => cases h
theorem j_s_lstore {n : Nat} (hC : j_Cx g ad B D cA cl TW zs ks own nm cc nL p s m args meth c) (hkd : j_kd cl TW df ∧ cl[99]? = none ∧ ∀ rr : vw_C, cl[4]? = some rr → rr.1 = "HundredWords$Row") (hd : decode cc pc = .ok (.lstore n, len)) (hlen : len = j_len (.lstore n)) (hlk : j_lk own nm cl TW zs ks pc (.lstore n, len, l1, l2, val, ty)) (h : jstep df nL pc (.lstore n, len, l1, l2, val, ty) lv st hp = some (pc', lv', st', hp', dc, ds)) (hl : lv_has ls nL (j_sl g lv)) (hH : j_H g ad B D cA cl s H hp) (hS : va_S (j_A B) s.heap H locs) (hc : cells + dc ≤ R.cells) (hs : slots + ds ≤ R.slots)
    (kk : ∀ (H' : Heap) (locs' : List Loc) (ls' : Array Slot), lv_has ls' nL (j_sl g lv') → j_H g ad B D cA cl s H' hp' → va_S (j_A B) s.heap H' locs' → W p l e R s m args below meth c H' locs' (cells + dc) (slots + ds) Q (F0 m pc' ls' (st'.map (j_rv g)))) : W p l e R s m args below meth c H locs cells slots Q (F0 m pc ls (st.map (j_rv g))) := by
  obtain ⟨hG, hx, hb, hml, hown, hts, hlocks, hname, hK, hSt, hKs, hBs⟩ := hC
  subst hlen
  cases st with
  | nil => cases h
  | cons v r =>
    cases v with
    | long x =>
      change cond (Nat.blt _ nL) (some _) none = some _ at h
      cases hb1 : Nat.blt ((n : Nat) + 1) nL with
      | false => rw [hb1] at h; cases h
      | true =>
        rw [hb1] at h
        cases h
        exact lv_lstore hx hb hd hl (Nat.le_of_ble_eq_true hb1) (j_put2_sl hG lv n (.long x)).symm (fun ls' hl' => kk H locs ls' hl' hH hS)
    | _ => cases h
theorem j_s_iinc {n : Nat} {z : Int} (hC : j_Cx g ad B D cA cl TW zs ks own nm cc nL p s m args meth c) (hkd : j_kd cl TW df ∧ cl[99]? = none ∧ ∀ rr : vw_C, cl[4]? = some rr → rr.1 = "HundredWords$Row") (hd : decode cc pc = .ok (.iinc n z, len)) (hlen : len = j_len (.iinc n z)) (hlk : j_lk own nm cl TW zs ks pc (.iinc n z, len, l1, l2, val, ty)) (h : jstep df nL pc (.iinc n z, len, l1, l2, val, ty) lv st hp = some (pc', lv', st', hp', dc, ds)) (hl : lv_has ls nL (j_sl g lv)) (hH : j_H g ad B D cA cl s H hp) (hS : va_S (j_A B) s.heap H locs) (hc : cells + dc ≤ R.cells) (hs : slots + ds ≤ R.slots)
    (kk : ∀ (H' : Heap) (locs' : List Loc) (ls' : Array Slot), lv_has ls' nL (j_sl g lv') → j_H g ad B D cA cl s H' hp' → va_S (j_A B) s.heap H' locs' → W p l e R s m args below meth c H' locs' (cells + dc) (slots + ds) Q (F0 m pc' ls' (st'.map (j_rv g)))) : W p l e R s m args below meth c H locs cells slots Q (F0 m pc ls (st.map (j_rv g))) := by
  obtain ⟨hG, hx, hb, hml, hown, hts, hlocks, hname, hK, hSt, hKs, hBs⟩ := hC
  subst hlen
  change (match j_get lv n with | some (.int x) => cond (Nat.blt n nL && Nat.beq 3 3) (some _) none | _ => none) = some _ at h
  split at h
  · rename_i x hj
    cases hb1 : Nat.blt n nL && Nat.beq 3 3 with
    | false => rw [hb1] at h; cases h
    | true =>
      rw [hb1] at h
      cases h
      rw [Bool.and_eq_true] at hb1
      obtain ⟨k, hk⟩ := List.getElem?_of_mem (List.mem_map.mpr ⟨(n, Value.int x), j_get_mem hj, rfl⟩ : (n, Value.int x) ∈ j_sl g lv)
      exact lv_iinc hx hb hd hl hk rfl (Nat.le_of_ble_eq_true hb1.1) (j_put1_sl hG lv n (.int (x + Int32.ofInt z))).symm (fun ls' hl' => kk H locs ls' hl' hH hS)
  · cases h
theorem j_s_iadd (hC : j_Cx g ad B D cA cl TW zs ks own nm cc nL p s m args meth c) (hkd : j_kd cl TW df ∧ cl[99]? = none ∧ ∀ rr : vw_C, cl[4]? = some rr → rr.1 = "HundredWords$Row") (hd : decode cc pc = .ok (.iadd, len)) (hlen : len = j_len (.iadd)) (hlk : j_lk own nm cl TW zs ks pc (.iadd, len, l1, l2, val, ty)) (h : jstep df nL pc (.iadd, len, l1, l2, val, ty) lv st hp = some (pc', lv', st', hp', dc, ds)) (hl : lv_has ls nL (j_sl g lv)) (hH : j_H g ad B D cA cl s H hp) (hS : va_S (j_A B) s.heap H locs) (hc : cells + dc ≤ R.cells) (hs : slots + ds ≤ R.slots)
    (kk : ∀ (H' : Heap) (locs' : List Loc) (ls' : Array Slot), lv_has ls' nL (j_sl g lv') → j_H g ad B D cA cl s H' hp' → va_S (j_A B) s.heap H' locs' → W p l e R s m args below meth c H' locs' (cells + dc) (slots + ds) Q (F0 m pc' ls' (st'.map (j_rv g)))) : W p l e R s m args below meth c H locs cells slots Q (F0 m pc ls (st.map (j_rv g))) := by
  obtain ⟨hG, hx, hb, hml, hown, hts, hlocks, hname, hK, hSt, hKs, hBs⟩ := hC
  subst hlen
  obtain ⟨q, hq, hX⟩ := j_go_some h
  obtain ⟨x, y, r, rfl, rfl⟩ := j_ii_some hq
  cases hX
  exact lv_iadd hx hb hd (kk H locs ls hl hH hS)
theorem j_s_isub (hC : j_Cx g ad B D cA cl TW zs ks own nm cc nL p s m args meth c) (hkd : j_kd cl TW df ∧ cl[99]? = none ∧ ∀ rr : vw_C, cl[4]? = some rr → rr.1 = "HundredWords$Row") (hd : decode cc pc = .ok (.isub, len)) (hlen : len = j_len (.isub)) (hlk : j_lk own nm cl TW zs ks pc (.isub, len, l1, l2, val, ty)) (h : jstep df nL pc (.isub, len, l1, l2, val, ty) lv st hp = some (pc', lv', st', hp', dc, ds)) (hl : lv_has ls nL (j_sl g lv)) (hH : j_H g ad B D cA cl s H hp) (hS : va_S (j_A B) s.heap H locs) (hc : cells + dc ≤ R.cells) (hs : slots + ds ≤ R.slots)
    (kk : ∀ (H' : Heap) (locs' : List Loc) (ls' : Array Slot), lv_has ls' nL (j_sl g lv') → j_H g ad B D cA cl s H' hp' → va_S (j_A B) s.heap H' locs' → W p l e R s m args below meth c H' locs' (cells + dc) (slots + ds) Q (F0 m pc' ls' (st'.map (j_rv g)))) : W p l e R s m args below meth c H locs cells slots Q (F0 m pc ls (st.map (j_rv g))) := by
  obtain ⟨hG, hx, hb, hml, hown, hts, hlocks, hname, hK, hSt, hKs, hBs⟩ := hC
  subst hlen
  obtain ⟨q, hq, hX⟩ := j_go_some h
  obtain ⟨x, y, r, rfl, rfl⟩ := j_ii_some hq
  cases hX
  exact lv_isub hx hb hd (kk H locs ls hl hH hS)
theorem j_s_imul (hC : j_Cx g ad B D cA cl TW zs ks own nm cc nL p s m args meth c) (hkd : j_kd cl TW df ∧ cl[99]? = none ∧ ∀ rr : vw_C, cl[4]? = some rr → rr.1 = "HundredWords$Row") (hd : decode cc pc = .ok (.imul, len)) (hlen : len = j_len (.imul)) (hlk : j_lk own nm cl TW zs ks pc (.imul, len, l1, l2, val, ty)) (h : jstep df nL pc (.imul, len, l1, l2, val, ty) lv st hp = some (pc', lv', st', hp', dc, ds)) (hl : lv_has ls nL (j_sl g lv)) (hH : j_H g ad B D cA cl s H hp) (hS : va_S (j_A B) s.heap H locs) (hc : cells + dc ≤ R.cells) (hs : slots + ds ≤ R.slots)
    (kk : ∀ (H' : Heap) (locs' : List Loc) (ls' : Array Slot), lv_has ls' nL (j_sl g lv') → j_H g ad B D cA cl s H' hp' → va_S (j_A B) s.heap H' locs' → W p l e R s m args below meth c H' locs' (cells + dc) (slots + ds) Q (F0 m pc' ls' (st'.map (j_rv g)))) : W p l e R s m args below meth c H locs cells slots Q (F0 m pc ls (st.map (j_rv g))) := by
  obtain ⟨hG, hx, hb, hml, hown, hts, hlocks, hname, hK, hSt, hKs, hBs⟩ := hC
  subst hlen
  obtain ⟨q, hq, hX⟩ := j_go_some h
  obtain ⟨x, y, r, rfl, rfl⟩ := j_ii_some hq
  cases hX
  exact lv_imul hx hb hd (kk H locs ls hl hH hS)
theorem j_s_iand (hC : j_Cx g ad B D cA cl TW zs ks own nm cc nL p s m args meth c) (hkd : j_kd cl TW df ∧ cl[99]? = none ∧ ∀ rr : vw_C, cl[4]? = some rr → rr.1 = "HundredWords$Row") (hd : decode cc pc = .ok (.iand, len)) (hlen : len = j_len (.iand)) (hlk : j_lk own nm cl TW zs ks pc (.iand, len, l1, l2, val, ty)) (h : jstep df nL pc (.iand, len, l1, l2, val, ty) lv st hp = some (pc', lv', st', hp', dc, ds)) (hl : lv_has ls nL (j_sl g lv)) (hH : j_H g ad B D cA cl s H hp) (hS : va_S (j_A B) s.heap H locs) (hc : cells + dc ≤ R.cells) (hs : slots + ds ≤ R.slots)
    (kk : ∀ (H' : Heap) (locs' : List Loc) (ls' : Array Slot), lv_has ls' nL (j_sl g lv') → j_H g ad B D cA cl s H' hp' → va_S (j_A B) s.heap H' locs' → W p l e R s m args below meth c H' locs' (cells + dc) (slots + ds) Q (F0 m pc' ls' (st'.map (j_rv g)))) : W p l e R s m args below meth c H locs cells slots Q (F0 m pc ls (st.map (j_rv g))) := by
  obtain ⟨hG, hx, hb, hml, hown, hts, hlocks, hname, hK, hSt, hKs, hBs⟩ := hC
  subst hlen
  obtain ⟨q, hq, hX⟩ := j_go_some h
  obtain ⟨x, y, r, rfl, rfl⟩ := j_ii_some hq
  cases hX
  exact lv_iand hx hb hd (kk H locs ls hl hH hS)
theorem j_s_ior (hC : j_Cx g ad B D cA cl TW zs ks own nm cc nL p s m args meth c) (hkd : j_kd cl TW df ∧ cl[99]? = none ∧ ∀ rr : vw_C, cl[4]? = some rr → rr.1 = "HundredWords$Row") (hd : decode cc pc = .ok (.ior, len)) (hlen : len = j_len (.ior)) (hlk : j_lk own nm cl TW zs ks pc (.ior, len, l1, l2, val, ty)) (h : jstep df nL pc (.ior, len, l1, l2, val, ty) lv st hp = some (pc', lv', st', hp', dc, ds)) (hl : lv_has ls nL (j_sl g lv)) (hH : j_H g ad B D cA cl s H hp) (hS : va_S (j_A B) s.heap H locs) (hc : cells + dc ≤ R.cells) (hs : slots + ds ≤ R.slots)
    (kk : ∀ (H' : Heap) (locs' : List Loc) (ls' : Array Slot), lv_has ls' nL (j_sl g lv') → j_H g ad B D cA cl s H' hp' → va_S (j_A B) s.heap H' locs' → W p l e R s m args below meth c H' locs' (cells + dc) (slots + ds) Q (F0 m pc' ls' (st'.map (j_rv g)))) : W p l e R s m args below meth c H locs cells slots Q (F0 m pc ls (st.map (j_rv g))) := by
  obtain ⟨hG, hx, hb, hml, hown, hts, hlocks, hname, hK, hSt, hKs, hBs⟩ := hC
  subst hlen
  obtain ⟨q, hq, hX⟩ := j_go_some h
  obtain ⟨x, y, r, rfl, rfl⟩ := j_ii_some hq
  cases hX
  exact lv_ior hx hb hd (kk H locs ls hl hH hS)
theorem j_s_ishl (hC : j_Cx g ad B D cA cl TW zs ks own nm cc nL p s m args meth c) (hkd : j_kd cl TW df ∧ cl[99]? = none ∧ ∀ rr : vw_C, cl[4]? = some rr → rr.1 = "HundredWords$Row") (hd : decode cc pc = .ok (.ishl, len)) (hlen : len = j_len (.ishl)) (hlk : j_lk own nm cl TW zs ks pc (.ishl, len, l1, l2, val, ty)) (h : jstep df nL pc (.ishl, len, l1, l2, val, ty) lv st hp = some (pc', lv', st', hp', dc, ds)) (hl : lv_has ls nL (j_sl g lv)) (hH : j_H g ad B D cA cl s H hp) (hS : va_S (j_A B) s.heap H locs) (hc : cells + dc ≤ R.cells) (hs : slots + ds ≤ R.slots)
    (kk : ∀ (H' : Heap) (locs' : List Loc) (ls' : Array Slot), lv_has ls' nL (j_sl g lv') → j_H g ad B D cA cl s H' hp' → va_S (j_A B) s.heap H' locs' → W p l e R s m args below meth c H' locs' (cells + dc) (slots + ds) Q (F0 m pc' ls' (st'.map (j_rv g)))) : W p l e R s m args below meth c H locs cells slots Q (F0 m pc ls (st.map (j_rv g))) := by
  obtain ⟨hG, hx, hb, hml, hown, hts, hlocks, hname, hK, hSt, hKs, hBs⟩ := hC
  subst hlen
  obtain ⟨q, hq, hX⟩ := j_go_some h
  obtain ⟨x, y, r, rfl, rfl⟩ := j_ii_some hq
  cases hX
  exact lv_ishl hx hb hd (kk H locs ls hl hH hS)
theorem j_s_ishr (hC : j_Cx g ad B D cA cl TW zs ks own nm cc nL p s m args meth c) (hkd : j_kd cl TW df ∧ cl[99]? = none ∧ ∀ rr : vw_C, cl[4]? = some rr → rr.1 = "HundredWords$Row") (hd : decode cc pc = .ok (.ishr, len)) (hlen : len = j_len (.ishr)) (hlk : j_lk own nm cl TW zs ks pc (.ishr, len, l1, l2, val, ty)) (h : jstep df nL pc (.ishr, len, l1, l2, val, ty) lv st hp = some (pc', lv', st', hp', dc, ds)) (hl : lv_has ls nL (j_sl g lv)) (hH : j_H g ad B D cA cl s H hp) (hS : va_S (j_A B) s.heap H locs) (hc : cells + dc ≤ R.cells) (hs : slots + ds ≤ R.slots)
    (kk : ∀ (H' : Heap) (locs' : List Loc) (ls' : Array Slot), lv_has ls' nL (j_sl g lv') → j_H g ad B D cA cl s H' hp' → va_S (j_A B) s.heap H' locs' → W p l e R s m args below meth c H' locs' (cells + dc) (slots + ds) Q (F0 m pc' ls' (st'.map (j_rv g)))) : W p l e R s m args below meth c H locs cells slots Q (F0 m pc ls (st.map (j_rv g))) := by
  obtain ⟨hG, hx, hb, hml, hown, hts, hlocks, hname, hK, hSt, hKs, hBs⟩ := hC
  subst hlen
  obtain ⟨q, hq, hX⟩ := j_go_some h
  obtain ⟨x, y, r, rfl, rfl⟩ := j_ii_some hq
  cases hX
  exact lv_ishr hx hb hd (kk H locs ls hl hH hS)
theorem j_s_ladd (hC : j_Cx g ad B D cA cl TW zs ks own nm cc nL p s m args meth c) (hkd : j_kd cl TW df ∧ cl[99]? = none ∧ ∀ rr : vw_C, cl[4]? = some rr → rr.1 = "HundredWords$Row") (hd : decode cc pc = .ok (.ladd, len)) (hlen : len = j_len (.ladd)) (hlk : j_lk own nm cl TW zs ks pc (.ladd, len, l1, l2, val, ty)) (h : jstep df nL pc (.ladd, len, l1, l2, val, ty) lv st hp = some (pc', lv', st', hp', dc, ds)) (hl : lv_has ls nL (j_sl g lv)) (hH : j_H g ad B D cA cl s H hp) (hS : va_S (j_A B) s.heap H locs) (hc : cells + dc ≤ R.cells) (hs : slots + ds ≤ R.slots)
    (kk : ∀ (H' : Heap) (locs' : List Loc) (ls' : Array Slot), lv_has ls' nL (j_sl g lv') → j_H g ad B D cA cl s H' hp' → va_S (j_A B) s.heap H' locs' → W p l e R s m args below meth c H' locs' (cells + dc) (slots + ds) Q (F0 m pc' ls' (st'.map (j_rv g)))) : W p l e R s m args below meth c H locs cells slots Q (F0 m pc ls (st.map (j_rv g))) := by
  obtain ⟨hG, hx, hb, hml, hown, hts, hlocks, hname, hK, hSt, hKs, hBs⟩ := hC
  subst hlen
  obtain ⟨q, hq, hX⟩ := j_go_some h
  obtain ⟨x, y, r, rfl, rfl⟩ := j_ll_some hq
  cases hX
  exact lv_ladd hx hb hd (kk H locs ls hl hH hS)
theorem j_s_lsub (hC : j_Cx g ad B D cA cl TW zs ks own nm cc nL p s m args meth c) (hkd : j_kd cl TW df ∧ cl[99]? = none ∧ ∀ rr : vw_C, cl[4]? = some rr → rr.1 = "HundredWords$Row") (hd : decode cc pc = .ok (.lsub, len)) (hlen : len = j_len (.lsub)) (hlk : j_lk own nm cl TW zs ks pc (.lsub, len, l1, l2, val, ty)) (h : jstep df nL pc (.lsub, len, l1, l2, val, ty) lv st hp = some (pc', lv', st', hp', dc, ds)) (hl : lv_has ls nL (j_sl g lv)) (hH : j_H g ad B D cA cl s H hp) (hS : va_S (j_A B) s.heap H locs) (hc : cells + dc ≤ R.cells) (hs : slots + ds ≤ R.slots)
    (kk : ∀ (H' : Heap) (locs' : List Loc) (ls' : Array Slot), lv_has ls' nL (j_sl g lv') → j_H g ad B D cA cl s H' hp' → va_S (j_A B) s.heap H' locs' → W p l e R s m args below meth c H' locs' (cells + dc) (slots + ds) Q (F0 m pc' ls' (st'.map (j_rv g)))) : W p l e R s m args below meth c H locs cells slots Q (F0 m pc ls (st.map (j_rv g))) := by
  obtain ⟨hG, hx, hb, hml, hown, hts, hlocks, hname, hK, hSt, hKs, hBs⟩ := hC
  subst hlen
  obtain ⟨q, hq, hX⟩ := j_go_some h
  obtain ⟨x, y, r, rfl, rfl⟩ := j_ll_some hq
  cases hX
  exact lv_lsub hx hb hd (kk H locs ls hl hH hS)
theorem j_s_lmul (hC : j_Cx g ad B D cA cl TW zs ks own nm cc nL p s m args meth c) (hkd : j_kd cl TW df ∧ cl[99]? = none ∧ ∀ rr : vw_C, cl[4]? = some rr → rr.1 = "HundredWords$Row") (hd : decode cc pc = .ok (.lmul, len)) (hlen : len = j_len (.lmul)) (hlk : j_lk own nm cl TW zs ks pc (.lmul, len, l1, l2, val, ty)) (h : jstep df nL pc (.lmul, len, l1, l2, val, ty) lv st hp = some (pc', lv', st', hp', dc, ds)) (hl : lv_has ls nL (j_sl g lv)) (hH : j_H g ad B D cA cl s H hp) (hS : va_S (j_A B) s.heap H locs) (hc : cells + dc ≤ R.cells) (hs : slots + ds ≤ R.slots)
    (kk : ∀ (H' : Heap) (locs' : List Loc) (ls' : Array Slot), lv_has ls' nL (j_sl g lv') → j_H g ad B D cA cl s H' hp' → va_S (j_A B) s.heap H' locs' → W p l e R s m args below meth c H' locs' (cells + dc) (slots + ds) Q (F0 m pc' ls' (st'.map (j_rv g)))) : W p l e R s m args below meth c H locs cells slots Q (F0 m pc ls (st.map (j_rv g))) := by
  obtain ⟨hG, hx, hb, hml, hown, hts, hlocks, hname, hK, hSt, hKs, hBs⟩ := hC
  subst hlen
  obtain ⟨q, hq, hX⟩ := j_go_some h
  obtain ⟨x, y, r, rfl, rfl⟩ := j_ll_some hq
  cases hX
  exact lv_lmul hx hb hd (kk H locs ls hl hH hS)
theorem j_s_land (hC : j_Cx g ad B D cA cl TW zs ks own nm cc nL p s m args meth c) (hkd : j_kd cl TW df ∧ cl[99]? = none ∧ ∀ rr : vw_C, cl[4]? = some rr → rr.1 = "HundredWords$Row") (hd : decode cc pc = .ok (.land, len)) (hlen : len = j_len (.land)) (hlk : j_lk own nm cl TW zs ks pc (.land, len, l1, l2, val, ty)) (h : jstep df nL pc (.land, len, l1, l2, val, ty) lv st hp = some (pc', lv', st', hp', dc, ds)) (hl : lv_has ls nL (j_sl g lv)) (hH : j_H g ad B D cA cl s H hp) (hS : va_S (j_A B) s.heap H locs) (hc : cells + dc ≤ R.cells) (hs : slots + ds ≤ R.slots)
    (kk : ∀ (H' : Heap) (locs' : List Loc) (ls' : Array Slot), lv_has ls' nL (j_sl g lv') → j_H g ad B D cA cl s H' hp' → va_S (j_A B) s.heap H' locs' → W p l e R s m args below meth c H' locs' (cells + dc) (slots + ds) Q (F0 m pc' ls' (st'.map (j_rv g)))) : W p l e R s m args below meth c H locs cells slots Q (F0 m pc ls (st.map (j_rv g))) := by
  obtain ⟨hG, hx, hb, hml, hown, hts, hlocks, hname, hK, hSt, hKs, hBs⟩ := hC
  subst hlen
  obtain ⟨q, hq, hX⟩ := j_go_some h
  obtain ⟨x, y, r, rfl, rfl⟩ := j_ll_some hq
  cases hX
  exact lv_land hx hb hd (kk H locs ls hl hH hS)
theorem j_s_lor (hC : j_Cx g ad B D cA cl TW zs ks own nm cc nL p s m args meth c) (hkd : j_kd cl TW df ∧ cl[99]? = none ∧ ∀ rr : vw_C, cl[4]? = some rr → rr.1 = "HundredWords$Row") (hd : decode cc pc = .ok (.lor, len)) (hlen : len = j_len (.lor)) (hlk : j_lk own nm cl TW zs ks pc (.lor, len, l1, l2, val, ty)) (h : jstep df nL pc (.lor, len, l1, l2, val, ty) lv st hp = some (pc', lv', st', hp', dc, ds)) (hl : lv_has ls nL (j_sl g lv)) (hH : j_H g ad B D cA cl s H hp) (hS : va_S (j_A B) s.heap H locs) (hc : cells + dc ≤ R.cells) (hs : slots + ds ≤ R.slots)
    (kk : ∀ (H' : Heap) (locs' : List Loc) (ls' : Array Slot), lv_has ls' nL (j_sl g lv') → j_H g ad B D cA cl s H' hp' → va_S (j_A B) s.heap H' locs' → W p l e R s m args below meth c H' locs' (cells + dc) (slots + ds) Q (F0 m pc' ls' (st'.map (j_rv g)))) : W p l e R s m args below meth c H locs cells slots Q (F0 m pc ls (st.map (j_rv g))) := by
  obtain ⟨hG, hx, hb, hml, hown, hts, hlocks, hname, hK, hSt, hKs, hBs⟩ := hC
  subst hlen
  obtain ⟨q, hq, hX⟩ := j_go_some h
  obtain ⟨x, y, r, rfl, rfl⟩ := j_ll_some hq
  cases hX
  exact lv_lor hx hb hd (kk H locs ls hl hH hS)
theorem j_s_lxor (hC : j_Cx g ad B D cA cl TW zs ks own nm cc nL p s m args meth c) (hkd : j_kd cl TW df ∧ cl[99]? = none ∧ ∀ rr : vw_C, cl[4]? = some rr → rr.1 = "HundredWords$Row") (hd : decode cc pc = .ok (.lxor, len)) (hlen : len = j_len (.lxor)) (hlk : j_lk own nm cl TW zs ks pc (.lxor, len, l1, l2, val, ty)) (h : jstep df nL pc (.lxor, len, l1, l2, val, ty) lv st hp = some (pc', lv', st', hp', dc, ds)) (hl : lv_has ls nL (j_sl g lv)) (hH : j_H g ad B D cA cl s H hp) (hS : va_S (j_A B) s.heap H locs) (hc : cells + dc ≤ R.cells) (hs : slots + ds ≤ R.slots)
    (kk : ∀ (H' : Heap) (locs' : List Loc) (ls' : Array Slot), lv_has ls' nL (j_sl g lv') → j_H g ad B D cA cl s H' hp' → va_S (j_A B) s.heap H' locs' → W p l e R s m args below meth c H' locs' (cells + dc) (slots + ds) Q (F0 m pc' ls' (st'.map (j_rv g)))) : W p l e R s m args below meth c H locs cells slots Q (F0 m pc ls (st.map (j_rv g))) := by
  obtain ⟨hG, hx, hb, hml, hown, hts, hlocks, hname, hK, hSt, hKs, hBs⟩ := hC
  subst hlen
  obtain ⟨q, hq, hX⟩ := j_go_some h
  obtain ⟨x, y, r, rfl, rfl⟩ := j_ll_some hq
  cases hX
  exact lv_lxor hx hb hd (kk H locs ls hl hH hS)
theorem j_s_iushr (hC : j_Cx g ad B D cA cl TW zs ks own nm cc nL p s m args meth c) (hkd : j_kd cl TW df ∧ cl[99]? = none ∧ ∀ rr : vw_C, cl[4]? = some rr → rr.1 = "HundredWords$Row") (hd : decode cc pc = .ok (.iushr, len)) (hlen : len = j_len (.iushr)) (hlk : j_lk own nm cl TW zs ks pc (.iushr, len, l1, l2, val, ty)) (h : jstep df nL pc (.iushr, len, l1, l2, val, ty) lv st hp = some (pc', lv', st', hp', dc, ds)) (hl : lv_has ls nL (j_sl g lv)) (hH : j_H g ad B D cA cl s H hp) (hS : va_S (j_A B) s.heap H locs) (hc : cells + dc ≤ R.cells) (hs : slots + ds ≤ R.slots)
    (kk : ∀ (H' : Heap) (locs' : List Loc) (ls' : Array Slot), lv_has ls' nL (j_sl g lv') → j_H g ad B D cA cl s H' hp' → va_S (j_A B) s.heap H' locs' → W p l e R s m args below meth c H' locs' (cells + dc) (slots + ds) Q (F0 m pc' ls' (st'.map (j_rv g)))) : W p l e R s m args below meth c H locs cells slots Q (F0 m pc ls (st.map (j_rv g))) := by
  obtain ⟨hG, hx, hb, hml, hown, hts, hlocks, hname, hK, hSt, hKs, hBs⟩ := hC
  subst hlen
  obtain ⟨q, hq, hX⟩ := j_go_some h
  obtain ⟨x, y, r, rfl, rfl⟩ := j_ii_some hq
  cases hX
  exact lv_iushr hx hb hd rfl (kk H locs ls hl hH hS)
theorem j_s_lshl (hC : j_Cx g ad B D cA cl TW zs ks own nm cc nL p s m args meth c) (hkd : j_kd cl TW df ∧ cl[99]? = none ∧ ∀ rr : vw_C, cl[4]? = some rr → rr.1 = "HundredWords$Row") (hd : decode cc pc = .ok (.lshl, len)) (hlen : len = j_len (.lshl)) (hlk : j_lk own nm cl TW zs ks pc (.lshl, len, l1, l2, val, ty)) (h : jstep df nL pc (.lshl, len, l1, l2, val, ty) lv st hp = some (pc', lv', st', hp', dc, ds)) (hl : lv_has ls nL (j_sl g lv)) (hH : j_H g ad B D cA cl s H hp) (hS : va_S (j_A B) s.heap H locs) (hc : cells + dc ≤ R.cells) (hs : slots + ds ≤ R.slots)
    (kk : ∀ (H' : Heap) (locs' : List Loc) (ls' : Array Slot), lv_has ls' nL (j_sl g lv') → j_H g ad B D cA cl s H' hp' → va_S (j_A B) s.heap H' locs' → W p l e R s m args below meth c H' locs' (cells + dc) (slots + ds) Q (F0 m pc' ls' (st'.map (j_rv g)))) : W p l e R s m args below meth c H locs cells slots Q (F0 m pc ls (st.map (j_rv g))) := by
  obtain ⟨hG, hx, hb, hml, hown, hts, hlocks, hname, hK, hSt, hKs, hBs⟩ := hC
  subst hlen
  obtain ⟨q, hq, hX⟩ := j_go_some h
  obtain ⟨x, y, r, rfl, rfl⟩ := j_li_some hq
  cases hX
  exact lv_lshl hx hb hd rfl (kk H locs ls hl hH hS)
theorem j_s_lshr (hC : j_Cx g ad B D cA cl TW zs ks own nm cc nL p s m args meth c) (hkd : j_kd cl TW df ∧ cl[99]? = none ∧ ∀ rr : vw_C, cl[4]? = some rr → rr.1 = "HundredWords$Row") (hd : decode cc pc = .ok (.lshr, len)) (hlen : len = j_len (.lshr)) (hlk : j_lk own nm cl TW zs ks pc (.lshr, len, l1, l2, val, ty)) (h : jstep df nL pc (.lshr, len, l1, l2, val, ty) lv st hp = some (pc', lv', st', hp', dc, ds)) (hl : lv_has ls nL (j_sl g lv)) (hH : j_H g ad B D cA cl s H hp) (hS : va_S (j_A B) s.heap H locs) (hc : cells + dc ≤ R.cells) (hs : slots + ds ≤ R.slots)
    (kk : ∀ (H' : Heap) (locs' : List Loc) (ls' : Array Slot), lv_has ls' nL (j_sl g lv') → j_H g ad B D cA cl s H' hp' → va_S (j_A B) s.heap H' locs' → W p l e R s m args below meth c H' locs' (cells + dc) (slots + ds) Q (F0 m pc' ls' (st'.map (j_rv g)))) : W p l e R s m args below meth c H locs cells slots Q (F0 m pc ls (st.map (j_rv g))) := by
  obtain ⟨hG, hx, hb, hml, hown, hts, hlocks, hname, hK, hSt, hKs, hBs⟩ := hC
  subst hlen
  obtain ⟨q, hq, hX⟩ := j_go_some h
  obtain ⟨x, y, r, rfl, rfl⟩ := j_li_some hq
  cases hX
  exact lv_lshr hx hb hd rfl (kk H locs ls hl hH hS)
theorem j_s_lushr (hC : j_Cx g ad B D cA cl TW zs ks own nm cc nL p s m args meth c) (hkd : j_kd cl TW df ∧ cl[99]? = none ∧ ∀ rr : vw_C, cl[4]? = some rr → rr.1 = "HundredWords$Row") (hd : decode cc pc = .ok (.lushr, len)) (hlen : len = j_len (.lushr)) (hlk : j_lk own nm cl TW zs ks pc (.lushr, len, l1, l2, val, ty)) (h : jstep df nL pc (.lushr, len, l1, l2, val, ty) lv st hp = some (pc', lv', st', hp', dc, ds)) (hl : lv_has ls nL (j_sl g lv)) (hH : j_H g ad B D cA cl s H hp) (hS : va_S (j_A B) s.heap H locs) (hc : cells + dc ≤ R.cells) (hs : slots + ds ≤ R.slots)
    (kk : ∀ (H' : Heap) (locs' : List Loc) (ls' : Array Slot), lv_has ls' nL (j_sl g lv') → j_H g ad B D cA cl s H' hp' → va_S (j_A B) s.heap H' locs' → W p l e R s m args below meth c H' locs' (cells + dc) (slots + ds) Q (F0 m pc' ls' (st'.map (j_rv g)))) : W p l e R s m args below meth c H locs cells slots Q (F0 m pc ls (st.map (j_rv g))) := by
  obtain ⟨hG, hx, hb, hml, hown, hts, hlocks, hname, hK, hSt, hKs, hBs⟩ := hC
  subst hlen
  obtain ⟨q, hq, hX⟩ := j_go_some h
  obtain ⟨x, y, r, rfl, rfl⟩ := j_li_some hq
  cases hX
  exact lv_lushr hx hb hd rfl (kk H locs ls hl hH hS)
theorem j_s_idiv (hC : j_Cx g ad B D cA cl TW zs ks own nm cc nL p s m args meth c) (hkd : j_kd cl TW df ∧ cl[99]? = none ∧ ∀ rr : vw_C, cl[4]? = some rr → rr.1 = "HundredWords$Row") (hd : decode cc pc = .ok (.idiv, len)) (hlen : len = j_len (.idiv)) (hlk : j_lk own nm cl TW zs ks pc (.idiv, len, l1, l2, val, ty)) (h : jstep df nL pc (.idiv, len, l1, l2, val, ty) lv st hp = some (pc', lv', st', hp', dc, ds)) (hl : lv_has ls nL (j_sl g lv)) (hH : j_H g ad B D cA cl s H hp) (hS : va_S (j_A B) s.heap H locs) (hc : cells + dc ≤ R.cells) (hs : slots + ds ≤ R.slots)
    (kk : ∀ (H' : Heap) (locs' : List Loc) (ls' : Array Slot), lv_has ls' nL (j_sl g lv') → j_H g ad B D cA cl s H' hp' → va_S (j_A B) s.heap H' locs' → W p l e R s m args below meth c H' locs' (cells + dc) (slots + ds) Q (F0 m pc' ls' (st'.map (j_rv g)))) : W p l e R s m args below meth c H locs cells slots Q (F0 m pc ls (st.map (j_rv g))) := by
  obtain ⟨hG, hx, hb, hml, hown, hts, hlocks, hname, hK, hSt, hKs, hBs⟩ := hC
  subst hlen
  obtain ⟨q, hq, hX⟩ := j_go_some h
  obtain ⟨x, y, r, rfl, rfl, hne⟩ := j_id_some hq
  cases hX
  exact lv_idiv hx hb hd hne (kk H locs ls hl hH hS)
theorem j_s_irem (hC : j_Cx g ad B D cA cl TW zs ks own nm cc nL p s m args meth c) (hkd : j_kd cl TW df ∧ cl[99]? = none ∧ ∀ rr : vw_C, cl[4]? = some rr → rr.1 = "HundredWords$Row") (hd : decode cc pc = .ok (.irem, len)) (hlen : len = j_len (.irem)) (hlk : j_lk own nm cl TW zs ks pc (.irem, len, l1, l2, val, ty)) (h : jstep df nL pc (.irem, len, l1, l2, val, ty) lv st hp = some (pc', lv', st', hp', dc, ds)) (hl : lv_has ls nL (j_sl g lv)) (hH : j_H g ad B D cA cl s H hp) (hS : va_S (j_A B) s.heap H locs) (hc : cells + dc ≤ R.cells) (hs : slots + ds ≤ R.slots)
    (kk : ∀ (H' : Heap) (locs' : List Loc) (ls' : Array Slot), lv_has ls' nL (j_sl g lv') → j_H g ad B D cA cl s H' hp' → va_S (j_A B) s.heap H' locs' → W p l e R s m args below meth c H' locs' (cells + dc) (slots + ds) Q (F0 m pc' ls' (st'.map (j_rv g)))) : W p l e R s m args below meth c H locs cells slots Q (F0 m pc ls (st.map (j_rv g))) := by
  obtain ⟨hG, hx, hb, hml, hown, hts, hlocks, hname, hK, hSt, hKs, hBs⟩ := hC
  subst hlen
  obtain ⟨q, hq, hX⟩ := j_go_some h
  obtain ⟨x, y, r, rfl, rfl, hne⟩ := j_id_some hq
  cases hX
  exact lv_irem hx hb hd hne (kk H locs ls hl hH hS)
theorem j_s_ldiv (hC : j_Cx g ad B D cA cl TW zs ks own nm cc nL p s m args meth c) (hkd : j_kd cl TW df ∧ cl[99]? = none ∧ ∀ rr : vw_C, cl[4]? = some rr → rr.1 = "HundredWords$Row") (hd : decode cc pc = .ok (.ldiv, len)) (hlen : len = j_len (.ldiv)) (hlk : j_lk own nm cl TW zs ks pc (.ldiv, len, l1, l2, val, ty)) (h : jstep df nL pc (.ldiv, len, l1, l2, val, ty) lv st hp = some (pc', lv', st', hp', dc, ds)) (hl : lv_has ls nL (j_sl g lv)) (hH : j_H g ad B D cA cl s H hp) (hS : va_S (j_A B) s.heap H locs) (hc : cells + dc ≤ R.cells) (hs : slots + ds ≤ R.slots)
    (kk : ∀ (H' : Heap) (locs' : List Loc) (ls' : Array Slot), lv_has ls' nL (j_sl g lv') → j_H g ad B D cA cl s H' hp' → va_S (j_A B) s.heap H' locs' → W p l e R s m args below meth c H' locs' (cells + dc) (slots + ds) Q (F0 m pc' ls' (st'.map (j_rv g)))) : W p l e R s m args below meth c H locs cells slots Q (F0 m pc ls (st.map (j_rv g))) := by
  obtain ⟨hG, hx, hb, hml, hown, hts, hlocks, hname, hK, hSt, hKs, hBs⟩ := hC
  subst hlen
  obtain ⟨q, hq, hX⟩ := j_go_some h
  obtain ⟨x, y, r, rfl, rfl, hne⟩ := j_ld_some hq
  cases hX
  exact lv_ldiv hx hb hd hne (kk H locs ls hl hH hS)
theorem j_s_lrem (hC : j_Cx g ad B D cA cl TW zs ks own nm cc nL p s m args meth c) (hkd : j_kd cl TW df ∧ cl[99]? = none ∧ ∀ rr : vw_C, cl[4]? = some rr → rr.1 = "HundredWords$Row") (hd : decode cc pc = .ok (.lrem, len)) (hlen : len = j_len (.lrem)) (hlk : j_lk own nm cl TW zs ks pc (.lrem, len, l1, l2, val, ty)) (h : jstep df nL pc (.lrem, len, l1, l2, val, ty) lv st hp = some (pc', lv', st', hp', dc, ds)) (hl : lv_has ls nL (j_sl g lv)) (hH : j_H g ad B D cA cl s H hp) (hS : va_S (j_A B) s.heap H locs) (hc : cells + dc ≤ R.cells) (hs : slots + ds ≤ R.slots)
    (kk : ∀ (H' : Heap) (locs' : List Loc) (ls' : Array Slot), lv_has ls' nL (j_sl g lv') → j_H g ad B D cA cl s H' hp' → va_S (j_A B) s.heap H' locs' → W p l e R s m args below meth c H' locs' (cells + dc) (slots + ds) Q (F0 m pc' ls' (st'.map (j_rv g)))) : W p l e R s m args below meth c H locs cells slots Q (F0 m pc ls (st.map (j_rv g))) := by
  obtain ⟨hG, hx, hb, hml, hown, hts, hlocks, hname, hK, hSt, hKs, hBs⟩ := hC
  subst hlen
  obtain ⟨q, hq, hX⟩ := j_go_some h
  obtain ⟨x, y, r, rfl, rfl, hne⟩ := j_ld_some hq
  cases hX
  exact lv_lrem hx hb hd hne (kk H locs ls hl hH hS)
theorem j_s_lcmp (hC : j_Cx g ad B D cA cl TW zs ks own nm cc nL p s m args meth c) (hkd : j_kd cl TW df ∧ cl[99]? = none ∧ ∀ rr : vw_C, cl[4]? = some rr → rr.1 = "HundredWords$Row") (hd : decode cc pc = .ok (.lcmp, len)) (hlen : len = j_len (.lcmp)) (hlk : j_lk own nm cl TW zs ks pc (.lcmp, len, l1, l2, val, ty)) (h : jstep df nL pc (.lcmp, len, l1, l2, val, ty) lv st hp = some (pc', lv', st', hp', dc, ds)) (hl : lv_has ls nL (j_sl g lv)) (hH : j_H g ad B D cA cl s H hp) (hS : va_S (j_A B) s.heap H locs) (hc : cells + dc ≤ R.cells) (hs : slots + ds ≤ R.slots)
    (kk : ∀ (H' : Heap) (locs' : List Loc) (ls' : Array Slot), lv_has ls' nL (j_sl g lv') → j_H g ad B D cA cl s H' hp' → va_S (j_A B) s.heap H' locs' → W p l e R s m args below meth c H' locs' (cells + dc) (slots + ds) Q (F0 m pc' ls' (st'.map (j_rv g)))) : W p l e R s m args below meth c H locs cells slots Q (F0 m pc ls (st.map (j_rv g))) := by
  obtain ⟨hG, hx, hb, hml, hown, hts, hlocks, hname, hK, hSt, hKs, hBs⟩ := hC
  subst hlen
  obtain ⟨q, hq, hX⟩ := j_go_some h
  split at hq
  · cases hq
    cases hX
    exact W.lcmp hx hb hd (kk H locs ls hl hH hS)
  · cases hq
theorem j_s_ineg (hC : j_Cx g ad B D cA cl TW zs ks own nm cc nL p s m args meth c) (hkd : j_kd cl TW df ∧ cl[99]? = none ∧ ∀ rr : vw_C, cl[4]? = some rr → rr.1 = "HundredWords$Row") (hd : decode cc pc = .ok (.ineg, len)) (hlen : len = j_len (.ineg)) (hlk : j_lk own nm cl TW zs ks pc (.ineg, len, l1, l2, val, ty)) (h : jstep df nL pc (.ineg, len, l1, l2, val, ty) lv st hp = some (pc', lv', st', hp', dc, ds)) (hl : lv_has ls nL (j_sl g lv)) (hH : j_H g ad B D cA cl s H hp) (hS : va_S (j_A B) s.heap H locs) (hc : cells + dc ≤ R.cells) (hs : slots + ds ≤ R.slots)
    (kk : ∀ (H' : Heap) (locs' : List Loc) (ls' : Array Slot), lv_has ls' nL (j_sl g lv') → j_H g ad B D cA cl s H' hp' → va_S (j_A B) s.heap H' locs' → W p l e R s m args below meth c H' locs' (cells + dc) (slots + ds) Q (F0 m pc' ls' (st'.map (j_rv g)))) : W p l e R s m args below meth c H locs cells slots Q (F0 m pc ls (st.map (j_rv g))) := by
  obtain ⟨hG, hx, hb, hml, hown, hts, hlocks, hname, hK, hSt, hKs, hBs⟩ := hC
  subst hlen
  obtain ⟨q, hq, hX⟩ := j_go_some h
  split at hq
  · cases hq
    cases hX
    exact lv_ineg hx hb hd (kk H locs ls hl hH hS)
  · cases hq
theorem j_s_lneg (hC : j_Cx g ad B D cA cl TW zs ks own nm cc nL p s m args meth c) (hkd : j_kd cl TW df ∧ cl[99]? = none ∧ ∀ rr : vw_C, cl[4]? = some rr → rr.1 = "HundredWords$Row") (hd : decode cc pc = .ok (.lneg, len)) (hlen : len = j_len (.lneg)) (hlk : j_lk own nm cl TW zs ks pc (.lneg, len, l1, l2, val, ty)) (h : jstep df nL pc (.lneg, len, l1, l2, val, ty) lv st hp = some (pc', lv', st', hp', dc, ds)) (hl : lv_has ls nL (j_sl g lv)) (hH : j_H g ad B D cA cl s H hp) (hS : va_S (j_A B) s.heap H locs) (hc : cells + dc ≤ R.cells) (hs : slots + ds ≤ R.slots)
    (kk : ∀ (H' : Heap) (locs' : List Loc) (ls' : Array Slot), lv_has ls' nL (j_sl g lv') → j_H g ad B D cA cl s H' hp' → va_S (j_A B) s.heap H' locs' → W p l e R s m args below meth c H' locs' (cells + dc) (slots + ds) Q (F0 m pc' ls' (st'.map (j_rv g)))) : W p l e R s m args below meth c H locs cells slots Q (F0 m pc ls (st.map (j_rv g))) := by
  obtain ⟨hG, hx, hb, hml, hown, hts, hlocks, hname, hK, hSt, hKs, hBs⟩ := hC
  subst hlen
  obtain ⟨q, hq, hX⟩ := j_go_some h
  split at hq
  · cases hq
    cases hX
    exact lv_lneg hx hb hd (kk H locs ls hl hH hS)
  · cases hq
theorem j_s_i2l (hC : j_Cx g ad B D cA cl TW zs ks own nm cc nL p s m args meth c) (hkd : j_kd cl TW df ∧ cl[99]? = none ∧ ∀ rr : vw_C, cl[4]? = some rr → rr.1 = "HundredWords$Row") (hd : decode cc pc = .ok (.i2l, len)) (hlen : len = j_len (.i2l)) (hlk : j_lk own nm cl TW zs ks pc (.i2l, len, l1, l2, val, ty)) (h : jstep df nL pc (.i2l, len, l1, l2, val, ty) lv st hp = some (pc', lv', st', hp', dc, ds)) (hl : lv_has ls nL (j_sl g lv)) (hH : j_H g ad B D cA cl s H hp) (hS : va_S (j_A B) s.heap H locs) (hc : cells + dc ≤ R.cells) (hs : slots + ds ≤ R.slots)
    (kk : ∀ (H' : Heap) (locs' : List Loc) (ls' : Array Slot), lv_has ls' nL (j_sl g lv') → j_H g ad B D cA cl s H' hp' → va_S (j_A B) s.heap H' locs' → W p l e R s m args below meth c H' locs' (cells + dc) (slots + ds) Q (F0 m pc' ls' (st'.map (j_rv g)))) : W p l e R s m args below meth c H locs cells slots Q (F0 m pc ls (st.map (j_rv g))) := by
  obtain ⟨hG, hx, hb, hml, hown, hts, hlocks, hname, hK, hSt, hKs, hBs⟩ := hC
  subst hlen
  obtain ⟨q, hq, hX⟩ := j_go_some h
  split at hq
  · cases hq
    cases hX
    exact lv_i2l hx hb hd rfl (kk H locs ls hl hH hS)
  · cases hq
theorem j_s_l2i (hC : j_Cx g ad B D cA cl TW zs ks own nm cc nL p s m args meth c) (hkd : j_kd cl TW df ∧ cl[99]? = none ∧ ∀ rr : vw_C, cl[4]? = some rr → rr.1 = "HundredWords$Row") (hd : decode cc pc = .ok (.l2i, len)) (hlen : len = j_len (.l2i)) (hlk : j_lk own nm cl TW zs ks pc (.l2i, len, l1, l2, val, ty)) (h : jstep df nL pc (.l2i, len, l1, l2, val, ty) lv st hp = some (pc', lv', st', hp', dc, ds)) (hl : lv_has ls nL (j_sl g lv)) (hH : j_H g ad B D cA cl s H hp) (hS : va_S (j_A B) s.heap H locs) (hc : cells + dc ≤ R.cells) (hs : slots + ds ≤ R.slots)
    (kk : ∀ (H' : Heap) (locs' : List Loc) (ls' : Array Slot), lv_has ls' nL (j_sl g lv') → j_H g ad B D cA cl s H' hp' → va_S (j_A B) s.heap H' locs' → W p l e R s m args below meth c H' locs' (cells + dc) (slots + ds) Q (F0 m pc' ls' (st'.map (j_rv g)))) : W p l e R s m args below meth c H locs cells slots Q (F0 m pc ls (st.map (j_rv g))) := by
  obtain ⟨hG, hx, hb, hml, hown, hts, hlocks, hname, hK, hSt, hKs, hBs⟩ := hC
  subst hlen
  obtain ⟨q, hq, hX⟩ := j_go_some h
  split at hq
  · cases hq
    cases hX
    exact lv_l2i hx hb hd rfl (kk H locs ls hl hH hS)
  · cases hq
theorem j_s_i2c (hC : j_Cx g ad B D cA cl TW zs ks own nm cc nL p s m args meth c) (hkd : j_kd cl TW df ∧ cl[99]? = none ∧ ∀ rr : vw_C, cl[4]? = some rr → rr.1 = "HundredWords$Row") (hd : decode cc pc = .ok (.i2c, len)) (hlen : len = j_len (.i2c)) (hlk : j_lk own nm cl TW zs ks pc (.i2c, len, l1, l2, val, ty)) (h : jstep df nL pc (.i2c, len, l1, l2, val, ty) lv st hp = some (pc', lv', st', hp', dc, ds)) (hl : lv_has ls nL (j_sl g lv)) (hH : j_H g ad B D cA cl s H hp) (hS : va_S (j_A B) s.heap H locs) (hc : cells + dc ≤ R.cells) (hs : slots + ds ≤ R.slots)
    (kk : ∀ (H' : Heap) (locs' : List Loc) (ls' : Array Slot), lv_has ls' nL (j_sl g lv') → j_H g ad B D cA cl s H' hp' → va_S (j_A B) s.heap H' locs' → W p l e R s m args below meth c H' locs' (cells + dc) (slots + ds) Q (F0 m pc' ls' (st'.map (j_rv g)))) : W p l e R s m args below meth c H locs cells slots Q (F0 m pc ls (st.map (j_rv g))) := by
  obtain ⟨hG, hx, hb, hml, hown, hts, hlocks, hname, hK, hSt, hKs, hBs⟩ := hC
  subst hlen
  obtain ⟨q, hq, hX⟩ := j_go_some h
  split at hq
  · cases hq
    cases hX
    exact lv_i2c hx hb hd rfl (kk H locs ls hl hH hS)
  · cases hq
theorem j_s_dup (hC : j_Cx g ad B D cA cl TW zs ks own nm cc nL p s m args meth c) (hkd : j_kd cl TW df ∧ cl[99]? = none ∧ ∀ rr : vw_C, cl[4]? = some rr → rr.1 = "HundredWords$Row") (hd : decode cc pc = .ok (.dup, len)) (hlen : len = j_len (.dup)) (hlk : j_lk own nm cl TW zs ks pc (.dup, len, l1, l2, val, ty)) (h : jstep df nL pc (.dup, len, l1, l2, val, ty) lv st hp = some (pc', lv', st', hp', dc, ds)) (hl : lv_has ls nL (j_sl g lv)) (hH : j_H g ad B D cA cl s H hp) (hS : va_S (j_A B) s.heap H locs) (hc : cells + dc ≤ R.cells) (hs : slots + ds ≤ R.slots)
    (kk : ∀ (H' : Heap) (locs' : List Loc) (ls' : Array Slot), lv_has ls' nL (j_sl g lv') → j_H g ad B D cA cl s H' hp' → va_S (j_A B) s.heap H' locs' → W p l e R s m args below meth c H' locs' (cells + dc) (slots + ds) Q (F0 m pc' ls' (st'.map (j_rv g)))) : W p l e R s m args below meth c H locs cells slots Q (F0 m pc ls (st.map (j_rv g))) := by
  obtain ⟨hG, hx, hb, hml, hown, hts, hlocks, hname, hK, hSt, hKs, hBs⟩ := hC
  subst hlen
  obtain ⟨q, hq, hX⟩ := j_go_some h
  split at hq
  · rename_i v r
    cases hb1 : j_cat1 v with
    | false => rw [hb1] at hq; cases hq
    | true =>
      rw [hb1] at hq
      cases hq
      cases hX
      exact lv_dup hx hb hd (j_cat1_eq hG hb1) (kk H locs ls hl hH hS)
  · cases hq
theorem j_s_pop (hC : j_Cx g ad B D cA cl TW zs ks own nm cc nL p s m args meth c) (hkd : j_kd cl TW df ∧ cl[99]? = none ∧ ∀ rr : vw_C, cl[4]? = some rr → rr.1 = "HundredWords$Row") (hd : decode cc pc = .ok (.pop, len)) (hlen : len = j_len (.pop)) (hlk : j_lk own nm cl TW zs ks pc (.pop, len, l1, l2, val, ty)) (h : jstep df nL pc (.pop, len, l1, l2, val, ty) lv st hp = some (pc', lv', st', hp', dc, ds)) (hl : lv_has ls nL (j_sl g lv)) (hH : j_H g ad B D cA cl s H hp) (hS : va_S (j_A B) s.heap H locs) (hc : cells + dc ≤ R.cells) (hs : slots + ds ≤ R.slots)
    (kk : ∀ (H' : Heap) (locs' : List Loc) (ls' : Array Slot), lv_has ls' nL (j_sl g lv') → j_H g ad B D cA cl s H' hp' → va_S (j_A B) s.heap H' locs' → W p l e R s m args below meth c H' locs' (cells + dc) (slots + ds) Q (F0 m pc' ls' (st'.map (j_rv g)))) : W p l e R s m args below meth c H locs cells slots Q (F0 m pc ls (st.map (j_rv g))) := by
  obtain ⟨hG, hx, hb, hml, hown, hts, hlocks, hname, hK, hSt, hKs, hBs⟩ := hC
  subst hlen
  obtain ⟨q, hq, hX⟩ := j_go_some h
  split at hq
  · rename_i v r
    cases hb1 : j_cat1 v with
    | false => rw [hb1] at hq; cases hq
    | true =>
      rw [hb1] at hq
      cases hq
      cases hX
      exact lv_pop hx hb hd (j_cat1_eq hG hb1) (kk H locs ls hl hH hS)
  · cases hq
theorem j_s_dup2 (hC : j_Cx g ad B D cA cl TW zs ks own nm cc nL p s m args meth c) (hkd : j_kd cl TW df ∧ cl[99]? = none ∧ ∀ rr : vw_C, cl[4]? = some rr → rr.1 = "HundredWords$Row") (hd : decode cc pc = .ok (.dup2, len)) (hlen : len = j_len (.dup2)) (hlk : j_lk own nm cl TW zs ks pc (.dup2, len, l1, l2, val, ty)) (h : jstep df nL pc (.dup2, len, l1, l2, val, ty) lv st hp = some (pc', lv', st', hp', dc, ds)) (hl : lv_has ls nL (j_sl g lv)) (hH : j_H g ad B D cA cl s H hp) (hS : va_S (j_A B) s.heap H locs) (hc : cells + dc ≤ R.cells) (hs : slots + ds ≤ R.slots)
    (kk : ∀ (H' : Heap) (locs' : List Loc) (ls' : Array Slot), lv_has ls' nL (j_sl g lv') → j_H g ad B D cA cl s H' hp' → va_S (j_A B) s.heap H' locs' → W p l e R s m args below meth c H' locs' (cells + dc) (slots + ds) Q (F0 m pc' ls' (st'.map (j_rv g)))) : W p l e R s m args below meth c H locs cells slots Q (F0 m pc ls (st.map (j_rv g))) := by
  obtain ⟨hG, hx, hb, hml, hown, hts, hlocks, hname, hK, hSt, hKs, hBs⟩ := hC
  subst hlen
  obtain ⟨q, hq, hX⟩ := j_go_some h
  split at hq
  · rename_i v w r
    cases hb1 : j_cat1 v && j_cat1 w with
    | false => rw [hb1] at hq; cases hq
    | true =>
      rw [hb1] at hq
      cases hq
      cases hX
      rw [Bool.and_eq_true] at hb1
      exact lv_dup2_11 hx hb hd (j_cat1_eq hG hb1.1) (j_cat1_eq hG hb1.2) (kk H locs ls hl hH hS)
  · cases hq
theorem j_s_ifCond {cd : ClassFile.Cond} {off : Int} (hC : j_Cx g ad B D cA cl TW zs ks own nm cc nL p s m args meth c) (hkd : j_kd cl TW df ∧ cl[99]? = none ∧ ∀ rr : vw_C, cl[4]? = some rr → rr.1 = "HundredWords$Row") (hd : decode cc pc = .ok (.ifCond cd off, len)) (hlen : len = j_len (.ifCond cd off)) (hlk : j_lk own nm cl TW zs ks pc (.ifCond cd off, len, l1, l2, val, ty)) (h : jstep df nL pc (.ifCond cd off, len, l1, l2, val, ty) lv st hp = some (pc', lv', st', hp', dc, ds)) (hl : lv_has ls nL (j_sl g lv)) (hH : j_H g ad B D cA cl s H hp) (hS : va_S (j_A B) s.heap H locs) (hc : cells + dc ≤ R.cells) (hs : slots + ds ≤ R.slots)
    (kk : ∀ (H' : Heap) (locs' : List Loc) (ls' : Array Slot), lv_has ls' nL (j_sl g lv') → j_H g ad B D cA cl s H' hp' → va_S (j_A B) s.heap H' locs' → W p l e R s m args below meth c H' locs' (cells + dc) (slots + ds) Q (F0 m pc' ls' (st'.map (j_rv g)))) : W p l e R s m args below meth c H locs cells slots Q (F0 m pc ls (st.map (j_rv g))) := by
  obtain ⟨hG, hx, hb, hml, hown, hts, hlocks, hname, hK, hSt, hKs, hBs⟩ := hC
  subst hlen
  cases st with
  | nil => cases h
  | cons v r =>
    cases v with
    | int x =>
      change (pc : Int) + off = (l1 : Int) at hlk
      cases h
      cases cd
      · refine lv_if_eq (tgt := l1) hx hb hd hlk (fun hq => ?_) (fun hq => ?_)
        · have hk := (kk H locs ls hl hH hS)
          have e1 : j_ck .eq x 0 = true := decide_eq_true (show x = 0 from hq)
          rw [e1] at hk
          exact hk
        · have hk := (kk H locs ls hl hH hS)
          have e1 : j_ck .eq x 0 = false := decide_eq_false (show ¬ (x = 0) from hq)
          rw [e1] at hk
          exact hk
      · refine lv_if_ne (tgt := l1) hx hb hd hlk (fun hq => ?_) (fun hq => ?_)
        · have hk := (kk H locs ls hl hH hS)
          have e1 : j_ck .ne x 0 = true := decide_eq_true (show ¬ x = 0 from hq)
          rw [e1] at hk
          exact hk
        · have hk := (kk H locs ls hl hH hS)
          have e1 : j_ck .ne x 0 = false := decide_eq_false (show ¬ (¬ x = 0) from fun z => z hq)
          rw [e1] at hk
          exact hk
      · refine lv_if_lt (tgt := l1) hx hb hd hlk (fun hq => ?_) (fun hq => ?_)
        · have hk := (kk H locs ls hl hH hS)
          have e1 : j_ck .lt x 0 = true := decide_eq_true (show x < 0 from hq)
          rw [e1] at hk
          exact hk
        · have hk := (kk H locs ls hl hH hS)
          have e1 : j_ck .lt x 0 = false := decide_eq_false (show ¬ (x < 0) from hq)
          rw [e1] at hk
          exact hk
      · refine lv_if_ge (tgt := l1) hx hb hd hlk (fun hq => ?_) (fun hq => ?_)
        · have hk := (kk H locs ls hl hH hS)
          have e1 : j_ck .ge x 0 = true := decide_eq_true (show 0 ≤ x from hq)
          rw [e1] at hk
          exact hk
        · have hk := (kk H locs ls hl hH hS)
          have e1 : j_ck .ge x 0 = false := decide_eq_false (show ¬ (0 ≤ x) from hq)
          rw [e1] at hk
          exact hk
      · refine lv_if_gt (tgt := l1) hx hb hd hlk (fun hq => ?_) (fun hq => ?_)
        · have hk := (kk H locs ls hl hH hS)
          have e1 : j_ck .gt x 0 = true := decide_eq_true (show 0 < x from hq)
          rw [e1] at hk
          exact hk
        · have hk := (kk H locs ls hl hH hS)
          have e1 : j_ck .gt x 0 = false := decide_eq_false (show ¬ (0 < x) from hq)
          rw [e1] at hk
          exact hk
      · refine lv_if_le (tgt := l1) hx hb hd hlk (fun hq => ?_) (fun hq => ?_)
        · have hk := (kk H locs ls hl hH hS)
          have e1 : j_ck .le x 0 = true := decide_eq_true (show x ≤ 0 from hq)
          rw [e1] at hk
          exact hk
        · have hk := (kk H locs ls hl hH hS)
          have e1 : j_ck .le x 0 = false := decide_eq_false (show ¬ (x ≤ 0) from hq)
          rw [e1] at hk
          exact hk
    | _ => cases h
theorem j_s_if_icmp {cd : ClassFile.Cond} {off : Int} (hC : j_Cx g ad B D cA cl TW zs ks own nm cc nL p s m args meth c) (hkd : j_kd cl TW df ∧ cl[99]? = none ∧ ∀ rr : vw_C, cl[4]? = some rr → rr.1 = "HundredWords$Row") (hd : decode cc pc = .ok (.if_icmp cd off, len)) (hlen : len = j_len (.if_icmp cd off)) (hlk : j_lk own nm cl TW zs ks pc (.if_icmp cd off, len, l1, l2, val, ty)) (h : jstep df nL pc (.if_icmp cd off, len, l1, l2, val, ty) lv st hp = some (pc', lv', st', hp', dc, ds)) (hl : lv_has ls nL (j_sl g lv)) (hH : j_H g ad B D cA cl s H hp) (hS : va_S (j_A B) s.heap H locs) (hc : cells + dc ≤ R.cells) (hs : slots + ds ≤ R.slots)
    (kk : ∀ (H' : Heap) (locs' : List Loc) (ls' : Array Slot), lv_has ls' nL (j_sl g lv') → j_H g ad B D cA cl s H' hp' → va_S (j_A B) s.heap H' locs' → W p l e R s m args below meth c H' locs' (cells + dc) (slots + ds) Q (F0 m pc' ls' (st'.map (j_rv g)))) : W p l e R s m args below meth c H locs cells slots Q (F0 m pc ls (st.map (j_rv g))) := by
  obtain ⟨hG, hx, hb, hml, hown, hts, hlocks, hname, hK, hSt, hKs, hBs⟩ := hC
  subst hlen
  cases st with
  | nil => cases h
  | cons v r0 =>
    cases v with
    | int y =>
      cases r0 with
      | nil => cases h
      | cons v2 r =>
        cases v2 with
        | int x =>
          change (pc : Int) + off = (l1 : Int) at hlk
          cases h
          cases cd
          · refine lv_icmp_eq (tgt := l1) hx hb hd hlk (fun hq => ?_) (fun hq => ?_)
            · have hk := (kk H locs ls hl hH hS)
              have e1 : j_ck .eq x y = true := decide_eq_true (show x = y from hq)
              rw [e1] at hk
              exact hk
            · have hk := (kk H locs ls hl hH hS)
              have e1 : j_ck .eq x y = false := decide_eq_false (show ¬ (x = y) from hq)
              rw [e1] at hk
              exact hk
          · refine lv_icmp_ne (tgt := l1) hx hb hd hlk (fun hq => ?_) (fun hq => ?_)
            · have hk := (kk H locs ls hl hH hS)
              have e1 : j_ck .ne x y = true := decide_eq_true (show ¬ x = y from hq)
              rw [e1] at hk
              exact hk
            · have hk := (kk H locs ls hl hH hS)
              have e1 : j_ck .ne x y = false := decide_eq_false (show ¬ (¬ x = y) from fun z => z hq)
              rw [e1] at hk
              exact hk
          · refine lv_icmp_lt (tgt := l1) hx hb hd hlk (fun hq => ?_) (fun hq => ?_)
            · have hk := (kk H locs ls hl hH hS)
              have e1 : j_ck .lt x y = true := decide_eq_true (show x < y from hq)
              rw [e1] at hk
              exact hk
            · have hk := (kk H locs ls hl hH hS)
              have e1 : j_ck .lt x y = false := decide_eq_false (show ¬ (x < y) from hq)
              rw [e1] at hk
              exact hk
          · refine lv_icmp_ge (tgt := l1) hx hb hd hlk (fun hq => ?_) (fun hq => ?_)
            · have hk := (kk H locs ls hl hH hS)
              have e1 : j_ck .ge x y = true := decide_eq_true (show y ≤ x from hq)
              rw [e1] at hk
              exact hk
            · have hk := (kk H locs ls hl hH hS)
              have e1 : j_ck .ge x y = false := decide_eq_false (show ¬ (y ≤ x) from hq)
              rw [e1] at hk
              exact hk
          · refine lv_icmp_gt (tgt := l1) hx hb hd hlk (fun hq => ?_) (fun hq => ?_)
            · have hk := (kk H locs ls hl hH hS)
              have e1 : j_ck .gt x y = true := decide_eq_true (show y < x from hq)
              rw [e1] at hk
              exact hk
            · have hk := (kk H locs ls hl hH hS)
              have e1 : j_ck .gt x y = false := decide_eq_false (show ¬ (y < x) from hq)
              rw [e1] at hk
              exact hk
          · refine lv_icmp_le (tgt := l1) hx hb hd hlk (fun hq => ?_) (fun hq => ?_)
            · have hk := (kk H locs ls hl hH hS)
              have e1 : j_ck .le x y = true := decide_eq_true (show x ≤ y from hq)
              rw [e1] at hk
              exact hk
            · have hk := (kk H locs ls hl hH hS)
              have e1 : j_ck .le x y = false := decide_eq_false (show ¬ (x ≤ y) from hq)
              rw [e1] at hk
              exact hk
        | _ => cases h
    | _ => cases h
theorem j_s_goto {off : Int} (hC : j_Cx g ad B D cA cl TW zs ks own nm cc nL p s m args meth c) (hkd : j_kd cl TW df ∧ cl[99]? = none ∧ ∀ rr : vw_C, cl[4]? = some rr → rr.1 = "HundredWords$Row") (hd : decode cc pc = .ok (.goto off, len)) (hlen : len = j_len (.goto off)) (hlk : j_lk own nm cl TW zs ks pc (.goto off, len, l1, l2, val, ty)) (h : jstep df nL pc (.goto off, len, l1, l2, val, ty) lv st hp = some (pc', lv', st', hp', dc, ds)) (hl : lv_has ls nL (j_sl g lv)) (hH : j_H g ad B D cA cl s H hp) (hS : va_S (j_A B) s.heap H locs) (hc : cells + dc ≤ R.cells) (hs : slots + ds ≤ R.slots)
    (kk : ∀ (H' : Heap) (locs' : List Loc) (ls' : Array Slot), lv_has ls' nL (j_sl g lv') → j_H g ad B D cA cl s H' hp' → va_S (j_A B) s.heap H' locs' → W p l e R s m args below meth c H' locs' (cells + dc) (slots + ds) Q (F0 m pc' ls' (st'.map (j_rv g)))) : W p l e R s m args below meth c H locs cells slots Q (F0 m pc ls (st.map (j_rv g))) := by
  obtain ⟨hG, hx, hb, hml, hown, hts, hlocks, hname, hK, hSt, hKs, hBs⟩ := hC
  subst hlen
  change (pc : Int) + off = (l1 : Int) at hlk
  cases h
  exact lv_goto (tgt := l1) hx hb hd hlk (kk H locs ls hl hH hS)
theorem j_tsw_in {dflt lo hi x : Int} {offs : Array Int} {t : Nat} (h : j_tsw pc dflt lo hi offs x = some t) : ((x < lo ∨ hi < x) ∧ (pc : Int) + dflt = (t : Int)) ∨ (¬ x < lo ∧ ¬ hi < x ∧ ∃ off, offs[(x - lo).toNat]? = some off ∧ (pc : Int) + off = (t : Int)) := by
  unfold j_tsw at h
  by_cases hx : x < lo ∨ hi < x
  · simp only [hx, if_true] at h
    split at h
    · rename_i n hn
      cases h
      exact Or.inl ⟨hx, by rw [hn]; rfl⟩
    · cases h
  · simp only [hx, if_false] at h
    split at h
    · rename_i o ho
      split at h
      · rename_i n hn
        cases h
        exact Or.inr ⟨fun z => hx (Or.inl z), fun z => hx (Or.inr z), o, ho, by rw [hn]; rfl⟩
      · cases h
    · cases h
theorem j_s_tableswitch {dflt lo hi : Int} {offs : Array Int} (hC : j_Cx g ad B D cA cl TW zs ks own nm cc nL p s m args meth c) (hkd : j_kd cl TW df ∧ cl[99]? = none ∧ ∀ rr : vw_C, cl[4]? = some rr → rr.1 = "HundredWords$Row") (hd : decode cc pc = .ok (.tableswitch dflt lo hi offs, len)) (hlk : j_lk own nm cl TW zs ks pc (.tableswitch dflt lo hi offs, len, l1, l2, val, ty)) (h : jstep df nL pc (.tableswitch dflt lo hi offs, len, l1, l2, val, ty) lv st hp = some (pc', lv', st', hp', dc, ds)) (hl : lv_has ls nL (j_sl g lv)) (hH : j_H g ad B D cA cl s H hp) (hS : va_S (j_A B) s.heap H locs) (hc : cells + dc ≤ R.cells) (hs : slots + ds ≤ R.slots)
    (kk : ∀ (H' : Heap) (locs' : List Loc) (ls' : Array Slot), lv_has ls' nL (j_sl g lv') → j_H g ad B D cA cl s H' hp' → va_S (j_A B) s.heap H' locs' → W p l e R s m args below meth c H' locs' (cells + dc) (slots + ds) Q (F0 m pc' ls' (st'.map (j_rv g)))) : W p l e R s m args below meth c H locs cells slots Q (F0 m pc ls (st.map (j_rv g))) := by
  obtain ⟨hG, hx, hb, hml, hown, hts, hlocks, hname, hK, hSt, hKs, hBs⟩ := hC
  cases st with
  | nil => cases h
  | cons v r =>
    cases v with
    | int x =>
      change (match j_tsw pc dflt lo hi offs x.toInt with | some t => some (t, lv, r, hp, 0, 0) | none => none) = some _ at h
      split at h
      · rename_i t ht
        cases h
        rcases j_tsw_in ht with ⟨h1, h2⟩ | ⟨h1, h2, off, h3, h4⟩
        · exact lv_tableOut hx hb hd h1 h2 (kk H locs ls hl hH hS)
        · exact lv_tableIn hx hb hd h1 h2 h3 h4 (kk H locs ls hl hH hS)
      · cases h
    | _ => cases h
theorem j_s_lookupswitch {dflt : Int} {ps : Array (Int × Int)} (hC : j_Cx g ad B D cA cl TW zs ks own nm cc nL p s m args meth c) (hkd : j_kd cl TW df ∧ cl[99]? = none ∧ ∀ rr : vw_C, cl[4]? = some rr → rr.1 = "HundredWords$Row") (hd : decode cc pc = .ok (.lookupswitch dflt ps, len)) (hlk : j_lk own nm cl TW zs ks pc (.lookupswitch dflt ps, len, l1, l2, val, ty)) (h : jstep df nL pc (.lookupswitch dflt ps, len, l1, l2, val, ty) lv st hp = some (pc', lv', st', hp', dc, ds)) (hl : lv_has ls nL (j_sl g lv)) (hH : j_H g ad B D cA cl s H hp) (hS : va_S (j_A B) s.heap H locs) (hc : cells + dc ≤ R.cells) (hs : slots + ds ≤ R.slots)
    (kk : ∀ (H' : Heap) (locs' : List Loc) (ls' : Array Slot), lv_has ls' nL (j_sl g lv') → j_H g ad B D cA cl s H' hp' → va_S (j_A B) s.heap H' locs' → W p l e R s m args below meth c H' locs' (cells + dc) (slots + ds) Q (F0 m pc' ls' (st'.map (j_rv g)))) : W p l e R s m args below meth c H locs cells slots Q (F0 m pc ls (st.map (j_rv g))) := by
  obtain ⟨hG, hx, hb, hml, hown, hts, hlocks, hname, hK, hSt, hKs, hBs⟩ := hC
  cases st with
  | nil => cases h
  | cons v r =>
    cases v with
    | int x =>
      change (match j_lsw pc dflt ps x.toInt with | some t => some (t, lv, r, hp, 0, 0) | none => none) = some _ at h
      split at h
      · rename_i t ht
        cases h
        unfold j_lsw at ht
        split at ht
        · rename_i n hn
          cases ht
          exact lv_lookup hx hb hd hlk rfl (by rw [hn]; rfl) (kk H locs ls hl hH hS)
        · cases ht
      · cases h
    | _ => cases h
theorem j_s_getfield {i : Nat} (hC : j_Cx g ad B D cA cl TW zs ks own nm cc nL p s m args meth c) (hkd : j_kd cl TW df ∧ cl[99]? = none ∧ ∀ rr : vw_C, cl[4]? = some rr → rr.1 = "HundredWords$Row") (hd : decode cc pc = .ok (.getfield i, len)) (hlen : len = j_len (.getfield i)) (hlk : j_lk own nm cl TW zs ks pc (.getfield i, len, l1, l2, val, ty)) (h : jstep df nL pc (.getfield i, len, l1, l2, val, ty) lv st hp = some (pc', lv', st', hp', dc, ds)) (hl : lv_has ls nL (j_sl g lv)) (hH : j_H g ad B D cA cl s H hp) (hS : va_S (j_A B) s.heap H locs) (hc : cells + dc ≤ R.cells) (hs : slots + ds ≤ R.slots)
    (kk : ∀ (H' : Heap) (locs' : List Loc) (ls' : Array Slot), lv_has ls' nL (j_sl g lv') → j_H g ad B D cA cl s H' hp' → va_S (j_A B) s.heap H' locs' → W p l e R s m args below meth c H' locs' (cells + dc) (slots + ds) Q (F0 m pc' ls' (st'.map (j_rv g)))) : W p l e R s m args below meth c H locs cells slots Q (F0 m pc ls (st.map (j_rv g))) := by
  obtain ⟨hG, hx, hb, hml, hown, hts, hlocks, hname, hK, hSt, hKs, hBs⟩ := hC
  subst hlen
  obtain ⟨q, hq, hX⟩ := j_go_some h
  cases st with
  | nil => cases hq
  | cons v r =>
    cases v with
    | ref a =>
      change (match j_nth hp a with
        | some (false, ci, fs) => cond (Nat.beq ci l1 && (Nat.ble 9 a || Nat.beq ci 99)) (match j_nth fs l2 with | some v => some (v :: r) | none => none) none
        | _ => none) = some q at hq
      split at hq
      · rename_i ci fs ha
        rw [j_nth_eq] at ha
        cases hb1 : Nat.beq ci l1 && (Nat.ble 9 a || Nat.beq ci 99) with
        | false => rw [hb1] at hq; cases hq
        | true =>
          rw [hb1] at hq
          change (match j_nth fs l2 with | some v => some (v :: r) | none => none) = some q at hq
          split at hq
          · rename_i v hv
            rw [j_nth_eq] at hv
            cases hq
            cases hX
            rw [Bool.and_eq_true, Bool.or_eq_true] at hb1
            have e1 : ci = l1 := Nat.eq_of_beq_eq_true hb1.1
            have hin := hH.2.2.2 a _ ha
            have h8 : a ≠ 8 := fun e8 => by
              rw [e8, hH.2.2.1] at ha
              have e9 : ci = 98 := by
                have := Option.some.inj ha
                exact (congrArg (fun z : jc => z.2.1) this).symm
              rw [e8, e9] at hb1
              rcases hb1.2 with z | z <;> exact absurd z (by decide)
            have kk2 := kk H locs ls hl hH hS
            show W p l e R s m args below meth c H locs _ _ Q (F0 m pc ls (g a :: _))
            rw [hG.1 a h8]
            unfold j_in at hin
            rcases hlk with ⟨h1, h2, h3⟩ | ⟨h1, C, T, N, h2, h3, h4⟩
            · change l1 = 99 at h1
              by_cases hk : a < 9
              · rw [if_pos hk] at hin
                obtain ⟨-, -, q4, q5, -⟩ := hin.2 rfl (e1.trans h1)
                have hOF : va_OF "java/lang/String" (j_sf l2).1 (j_sf l2).2 (j_rv g v) (ad a) (j_A B) s H := by
                  have h2' : l2 < 2 := h2
                  match l2, h2', hv with
                  | 0, _, hv => exact q4 v hv
                  | 1, _, hv => exact q5 v hv
                obtain ⟨cf, k, fi, f, cell, g1, g2, g3, g4, g5, -⟩ := hOF
                exact W.getf hx hb hown (hts _ h3) g1 g2 g3 g4 (v := j_rv g v) g5 rfl rfl hd kk2
              · rw [if_neg hk] at hin
                obtain ⟨rr, g1, -, -⟩ := hin.2 rfl
                have z : cl[99]? = some rr := by rw [← h1, ← e1]; exact g1
                rw [hkd.2.1] at z
                cases z
            · change ¬ l1 = 99 at h1
              have hk : ¬ a < 9 := fun z => by
                rcases hb1.2 with y | y
                · exact absurd (Nat.le_of_ble_eq_true y) (Nat.not_le.mpr z)
                · exact h1 (e1.symm.trans (Nat.eq_of_beq_eq_true y))
              rw [if_neg hk] at hin
              obtain ⟨rr, g1, g2, cell, g3, g4, g5, g6⟩ := hin.2 rfl
              have hr : rr = (C, T, N) := Option.some.inj ((show cl[l1]? = some rr from e1 ▸ g1).symm.trans h2)
              subst hr
              obtain ⟨hSl, hfc, kC, hkC, hkind⟩ := hK.1 l1 _ h2
              obtain ⟨cf, kf, fi, f, hi, hsl⟩ := hSl l2 h3
              have hin2 := (hkd.1 l1 C T N h2).1
              have g7 : cell.slots[f.slot]? = some (j_rv g v) := by
                have g6' := g6 l2 h3
                subst e1
                rw [hsl, g6']
                simp [List.getD_eq_getElem?_getD, hv]
              have g8 : cell.vm ≠ .unknown := by rw [g5]; exact fun z => by cases z
              have g9 := (u_facts hfc hkC (u_lays hts hin2 h3) hi).1
              rcases h4 with h4 | ⟨host, h4⟩
              · exact W.getf hx hb hown (hts _ h4) hi g9 g3 g8 (v := j_rv g v) g7 rfl rfl hd kk2
              · exact va_Wgetf hx hb hown ((hKs.2 _ h4).2.use rfl) hi g9 g3 g8 (v := j_rv g v) g7 rfl rfl hd kk2
          · cases hq
      · cases hq
    | _ => cases hq
theorem j_s_putfield {i : Nat} (hC : j_Cx g ad B D cA cl TW zs ks own nm cc nL p s m args meth c) (hkd : j_kd cl TW df ∧ cl[99]? = none ∧ ∀ rr : vw_C, cl[4]? = some rr → rr.1 = "HundredWords$Row") (hd : decode cc pc = .ok (.putfield i, len)) (hlen : len = j_len (.putfield i)) (hlk : j_lk own nm cl TW zs ks pc (.putfield i, len, l1, l2, val, ty)) (h : jstep df nL pc (.putfield i, len, l1, l2, val, ty) lv st hp = some (pc', lv', st', hp', dc, ds)) (hl : lv_has ls nL (j_sl g lv)) (hH : j_H g ad B D cA cl s H hp) (hS : va_S (j_A B) s.heap H locs) (hc : cells + dc ≤ R.cells) (hs : slots + ds ≤ R.slots)
    (kk : ∀ (H' : Heap) (locs' : List Loc) (ls' : Array Slot), lv_has ls' nL (j_sl g lv') → j_H g ad B D cA cl s H' hp' → va_S (j_A B) s.heap H' locs' → W p l e R s m args below meth c H' locs' (cells + dc) (slots + ds) Q (F0 m pc' ls' (st'.map (j_rv g)))) : W p l e R s m args below meth c H locs cells slots Q (F0 m pc ls (st.map (j_rv g))) := by
  obtain ⟨hG, hx, hb, hml, hown, hts, hlocks, hname, hK, hSt, hKs, hBs⟩ := hC
  subst hlen
  cases st with
  | nil => cases h
  | cons v r0 =>
    cases r0 with
    | nil => cases v <;> cases h
    | cons v2 r =>
      cases v2 with
      | ref a =>
        have h' : (match j_nth hp a with
          | some (false, ci, fs) => cond (Nat.beq ci l1 && Nat.ble 9 a && j_fit ty v) (some (pc + 3, lv, r, j_set (false, ci, j_set v fs l2) hp a, 0, 0)) none
          | _ => none) = some (pc', lv', st', hp', dc, ds) := by
          cases v <;> exact h
        split at h'
        · rename_i ci fs ha
          rw [j_nth_eq] at ha
          cases hb1 : Nat.beq ci l1 && Nat.ble 9 a && j_fit ty v with
          | false => rw [hb1] at h'; cases h'
          | true =>
            rw [hb1] at h'
            cases h'
            rw [Bool.and_eq_true, Bool.and_eq_true] at hb1
            have e1 : ci = l1 := Nat.eq_of_beq_eq_true hb1.1.1
            subst e1
            have h9 := Nat.le_of_ble_eq_true hb1.1.2
            obtain ⟨hn, hfit⟩ := j_rv_fit g ad B hG hb1.2
            have hin := hH.2.2.2 a _ ha
            unfold j_in at hin
            rw [if_neg (by omega)] at hin
            obtain ⟨h1, C, T, N, h2, h3, h4, h5, h6⟩ := hlk
            obtain ⟨rr, g1, g2, cell, g3, g4, g5, g6⟩ := hin.2 rfl
            have hr : rr = (C, T, N) := Option.some.inj (g1.symm.trans h2)
            subst hr
            obtain ⟨hin2, ⟨ty0, hty, -⟩, hnm⟩ := hkd.1 ci C T N h2
            have hap := va_apart (own := own) hts hin2 ty0 hty hnm hK h2
            obtain ⟨hSl, hfc, kC, hkC, hkind⟩ := hK.1 ci _ h2
            obtain ⟨cf, kf, fi, f, hi, hsl⟩ := hSl l2 h3
            have hlay := hts _ (hin2 _ (u_in_lay h3))
            have hst := (u_facts hfc hkC (u_lays hts hin2 h3) hi).1
            have hlt : f.slot < cell.slots.size := by rw [hsl]; exact k2_hasslot (g6 l2 h3)
            have fin : ∀ H1 : Heap, H1[ad a]? = some (cell.setSlot f.slot (j_rv g v)) → H1.size = H.size → (∀ q, q ≠ ad a → H1[q]? = H[q]?) → W p l e R s m args below meth c H1 (locs ++ [⟨ad a, f.slot⟩]) cells slots Q (F0 m (pc + 3) ls (st'.map (j_rv g))) := by
              intro H1 e1 e2 e3
              refine kk H1 _ ls hl (hH.put hG ha h9 e2 e3 ?_) (hS.put e2 e3 (by show B ≤ ad a; rw [hG.2.2.1 a h9]; omega))
              unfold j_in
              rw [if_neg (by omega)]
              refine ⟨(fun z => by cases z), fun _ => ⟨_, h2, by rw [j_set_eq]; simp; exact g2, cell.setSlot f.slot (j_rv g v), e1, g4, g5, ?_⟩⟩
              rw [hsl]
              intro k hk
              have := t_set g6 hap h3 (j_rv g v) k hk
              rw [this]
              unfold updV
              rw [j_set_eq]
              by_cases hk2 : k = l2
              · subst hk2
                have : k < fs.length := by rw [g2]; exact hk
                simp [List.getD_eq_getElem?_getD, this]
              · simp [List.getD_eq_getElem?_getD, List.getElem?_set_ne (Ne.symm hk2), hk2]
            show W p l e R s m args below meth c H locs _ _ Q (F0 m pc ls (j_rv g v :: g a :: _))
            rw [hG.ref h9]
            unfold u_lay at hlay
            by_cases hf : (T l2).2.2.2 = true
            · rw [if_pos hf] at hlay
              obtain ⟨h7, h8⟩ := h6 hf
              have hcf : m.cls = cf := by
                obtain ⟨_, _, c', _, _, _, -, -, hf', -, -, -, hown2, -⟩ := Cond.laysFinal_spec hlay
                have e1 : c' = cf := by have := hi.symm.trans hf'; simp at this; exact this.1.symm
                rw [show (T l2).1 = own from h8] at hown2
                rw [← e1]; exact Option.some.inj (hown.symm.trans hown2)
              have h10 := u_fits hfc hkC hkind (Or.inr hlay) hi h5 hn hfit
              exact W.putFinK hx hb hown (hts _ h4) hi hst hcf (hname h7) (by rw [g4]; exact h10) g3 g5 hlt rfl rfl hd fin
            · rw [if_neg hf] at hlay
              have h10 := u_store hfc hkC hkind hlay hi h5 hn hfit
              exact W.putK hx hb (f := f) ⟨hown, hts _ h4, ⟨_, _, _, hi⟩, hst⟩ (by rw [g4]; exact h10) g3 g5 hlt rfl rfl hd fin
        · cases h'
      | _ => cases v <;> cases h
theorem j_s_getstatic {i : Nat} (hC : j_Cx g ad B D cA cl TW zs ks own nm cc nL p s m args meth c) (hkd : j_kd cl TW df ∧ cl[99]? = none ∧ ∀ rr : vw_C, cl[4]? = some rr → rr.1 = "HundredWords$Row") (hd : decode cc pc = .ok (.getstatic i, len)) (hlen : len = j_len (.getstatic i)) (hlk : j_lk own nm cl TW zs ks pc (.getstatic i, len, l1, l2, val, ty)) (h : jstep df nL pc (.getstatic i, len, l1, l2, val, ty) lv st hp = some (pc', lv', st', hp', dc, ds)) (hl : lv_has ls nL (j_sl g lv)) (hH : j_H g ad B D cA cl s H hp) (hS : va_S (j_A B) s.heap H locs) (hc : cells + dc ≤ R.cells) (hs : slots + ds ≤ R.slots)
    (kk : ∀ (H' : Heap) (locs' : List Loc) (ls' : Array Slot), lv_has ls' nL (j_sl g lv') → j_H g ad B D cA cl s H' hp' → va_S (j_A B) s.heap H' locs' → W p l e R s m args below meth c H' locs' (cells + dc) (slots + ds) Q (F0 m pc' ls' (st'.map (j_rv g)))) : W p l e R s m args below meth c H locs cells slots Q (F0 m pc ls (st.map (j_rv g))) := by
  obtain ⟨hG, hx, hb, hml, hown, hts, hlocks, hname, hK, hSt, hKs, hBs⟩ := hC
  subst hlen
  have h : j_go pc 3 lv hp (some (val :: st)) = some (pc', lv', st', hp', dc, ds) := h
  obtain ⟨q, hq, hX⟩ := j_go_some h
  cases hq
  cases hX
  obtain ⟨C, n, d, h1, h2⟩ := hlk
  exact va_gets hx hb (hSt _ h1) hS hown (hts _ h2) (fun _ z => z) hd (kk H locs ls hl hH hS)
theorem j_s_ldc2_w {i : Nat} (hC : j_Cx g ad B D cA cl TW zs ks own nm cc nL p s m args meth c) (hkd : j_kd cl TW df ∧ cl[99]? = none ∧ ∀ rr : vw_C, cl[4]? = some rr → rr.1 = "HundredWords$Row") (hd : decode cc pc = .ok (.ldc2_w i, len)) (hlen : len = j_len (.ldc2_w i)) (hlk : j_lk own nm cl TW zs ks pc (.ldc2_w i, len, l1, l2, val, ty)) (h : jstep df nL pc (.ldc2_w i, len, l1, l2, val, ty) lv st hp = some (pc', lv', st', hp', dc, ds)) (hl : lv_has ls nL (j_sl g lv)) (hH : j_H g ad B D cA cl s H hp) (hS : va_S (j_A B) s.heap H locs) (hc : cells + dc ≤ R.cells) (hs : slots + ds ≤ R.slots)
    (kk : ∀ (H' : Heap) (locs' : List Loc) (ls' : Array Slot), lv_has ls' nL (j_sl g lv') → j_H g ad B D cA cl s H' hp' → va_S (j_A B) s.heap H' locs' → W p l e R s m args below meth c H' locs' (cells + dc) (slots + ds) Q (F0 m pc' ls' (st'.map (j_rv g)))) : W p l e R s m args below meth c H locs cells slots Q (F0 m pc ls (st.map (j_rv g))) := by
  obtain ⟨hG, hx, hb, hml, hown, hts, hlocks, hname, hK, hSt, hKs, hBs⟩ := hC
  subst hlen
  have h : j_go pc 3 lv hp (some (val :: st)) = some (pc', lv', st', hp', dc, ds) := h
  obtain ⟨q, hq, hX⟩ := j_go_some h
  cases hq
  cases hX
  obtain ⟨x, h1, h2⟩ := hlk
  change val = .long x at h1
  subst h1
  exact lv_ldc2 hx hb hown (hts _ h2) hd (kk H locs ls hl hH hS)
theorem j_s_ldc {i : Nat} (hC : j_Cx g ad B D cA cl TW zs ks own nm cc nL p s m args meth c) (hkd : j_kd cl TW df ∧ cl[99]? = none ∧ ∀ rr : vw_C, cl[4]? = some rr → rr.1 = "HundredWords$Row") (hd : decode cc pc = .ok (.ldc i, len)) (hlen : len = j_len (.ldc i)) (hlk : j_lk own nm cl TW zs ks pc (.ldc i, len, l1, l2, val, ty)) (h : jstep df nL pc (.ldc i, len, l1, l2, val, ty) lv st hp = some (pc', lv', st', hp', dc, ds)) (hl : lv_has ls nL (j_sl g lv)) (hH : j_H g ad B D cA cl s H hp) (hS : va_S (j_A B) s.heap H locs) (hc : cells + dc ≤ R.cells) (hs : slots + ds ≤ R.slots)
    (kk : ∀ (H' : Heap) (locs' : List Loc) (ls' : Array Slot), lv_has ls' nL (j_sl g lv') → j_H g ad B D cA cl s H' hp' → va_S (j_A B) s.heap H' locs' → W p l e R s m args below meth c H' locs' (cells + dc) (slots + ds) Q (F0 m pc' ls' (st'.map (j_rv g)))) : W p l e R s m args below meth c H locs cells slots Q (F0 m pc ls (st.map (j_rv g))) := by
  obtain ⟨hG, hx, hb, hml, hown, hts, hlocks, hname, hK, hSt, hKs, hBs⟩ := hC
  subst hlen
  have h : j_go pc 2 lv hp (some (val :: st)) = some (pc', lv', st', hp', dc, ds) := h
  obtain ⟨q, hq, hX⟩ := j_go_some h
  cases hq
  cases hX
  obtain ⟨tx, h1⟩ := hlk
  obtain ⟨a, h2, h3⟩ := hKs.1 _ h1
  have kk2 := kk H locs ls hl hH hS
  change W p l e R s m args below meth c H locs _ _ Q (F0 m _ ls (j_rv g val :: st.map (j_rv g))) at kk2
  rw [show j_rv g val = .ref a from h2] at kk2
  exact va_ldcS hx hb hown h3 hd kk2
theorem j_s_arraylength (hC : j_Cx g ad B D cA cl TW zs ks own nm cc nL p s m args meth c) (hkd : j_kd cl TW df ∧ cl[99]? = none ∧ ∀ rr : vw_C, cl[4]? = some rr → rr.1 = "HundredWords$Row") (hd : decode cc pc = .ok (.arraylength, len)) (hlen : len = j_len (.arraylength)) (hlk : j_lk own nm cl TW zs ks pc (.arraylength, len, l1, l2, val, ty)) (h : jstep df nL pc (.arraylength, len, l1, l2, val, ty) lv st hp = some (pc', lv', st', hp', dc, ds)) (hl : lv_has ls nL (j_sl g lv)) (hH : j_H g ad B D cA cl s H hp) (hS : va_S (j_A B) s.heap H locs) (hc : cells + dc ≤ R.cells) (hs : slots + ds ≤ R.slots)
    (kk : ∀ (H' : Heap) (locs' : List Loc) (ls' : Array Slot), lv_has ls' nL (j_sl g lv') → j_H g ad B D cA cl s H' hp' → va_S (j_A B) s.heap H' locs' → W p l e R s m args below meth c H' locs' (cells + dc) (slots + ds) Q (F0 m pc' ls' (st'.map (j_rv g)))) : W p l e R s m args below meth c H locs cells slots Q (F0 m pc ls (st.map (j_rv g))) := by
  obtain ⟨hG, hx, hb, hml, hown, hts, hlocks, hname, hK, hSt, hKs, hBs⟩ := hC
  subst hlen
  obtain ⟨q, hq, hX⟩ := j_go_some h
  cases st with
  | nil => cases hq
  | cons v r =>
    cases v with
    | ref a =>
      change (match j_nth hp a with | some (true, _, l) => some (.int (Int32.ofNat l.length) :: r) | _ => none) = some q at hq
      split at hq
      · rename_i t la ha
        rw [j_nth_eq] at ha
        cases hq
        cases hX
        obtain ⟨cell, e1, e2, e3, e4, e5, e6, e7⟩ := j_arr hG hK hH ha
        show W p l e R s m args below meth c H locs _ _ Q (F0 m pc ls (g a :: _))
        rw [e1]
        exact W.alen hx hb e2 e3 e6 rfl rfl hd (kk H locs ls hl hH hS)
      · cases hq
    | _ => cases hq
theorem j_s_iaload (hC : j_Cx g ad B D cA cl TW zs ks own nm cc nL p s m args meth c) (hkd : j_kd cl TW df ∧ cl[99]? = none ∧ ∀ rr : vw_C, cl[4]? = some rr → rr.1 = "HundredWords$Row") (hd : decode cc pc = .ok (.iaload, len)) (hlen : len = j_len (.iaload)) (hlk : j_lk own nm cl TW zs ks pc (.iaload, len, l1, l2, val, ty)) (h : jstep df nL pc (.iaload, len, l1, l2, val, ty) lv st hp = some (pc', lv', st', hp', dc, ds)) (hl : lv_has ls nL (j_sl g lv)) (hH : j_H g ad B D cA cl s H hp) (hS : va_S (j_A B) s.heap H locs) (hc : cells + dc ≤ R.cells) (hs : slots + ds ≤ R.slots)
    (kk : ∀ (H' : Heap) (locs' : List Loc) (ls' : Array Slot), lv_has ls' nL (j_sl g lv') → j_H g ad B D cA cl s H' hp' → va_S (j_A B) s.heap H' locs' → W p l e R s m args below meth c H' locs' (cells + dc) (slots + ds) Q (F0 m pc' ls' (st'.map (j_rv g)))) : W p l e R s m args below meth c H locs cells slots Q (F0 m pc ls (st.map (j_rv g))) := by
  obtain ⟨hG, hx, hb, hml, hown, hts, hlocks, hname, hK, hSt, hKs, hBs⟩ := hC
  subst hlen
  obtain ⟨q, hq, hX⟩ := j_go_some h
  obtain ⟨i, a, r, t, la, v, rfl, ha, ht, hi, hv, rfl⟩ := j_ald_some hq
  cases hX
  have ht' : t = 0 := by simpa using ht
  subst ht'
  obtain ⟨cell, e1, e2, e3, e4, e5, e6, e7⟩ := j_arr hG hK hH ha
  show W p l e R s m args below meth c H locs _ _ Q (F0 m pc ls (.int i :: g a :: _))
  rw [e1]
  have hlt := (List.getElem?_eq_some_iff.mp hv).1
  exact W.iald (v := j_rv g v) hx hb e2 e3 e4 (fun z => z.elim hi (fun z => by omega)) (e7 _ _ hv) rfl rfl hd (kk H locs ls hl hH hS)
theorem j_s_laload (hC : j_Cx g ad B D cA cl TW zs ks own nm cc nL p s m args meth c) (hkd : j_kd cl TW df ∧ cl[99]? = none ∧ ∀ rr : vw_C, cl[4]? = some rr → rr.1 = "HundredWords$Row") (hd : decode cc pc = .ok (.laload, len)) (hlen : len = j_len (.laload)) (hlk : j_lk own nm cl TW zs ks pc (.laload, len, l1, l2, val, ty)) (h : jstep df nL pc (.laload, len, l1, l2, val, ty) lv st hp = some (pc', lv', st', hp', dc, ds)) (hl : lv_has ls nL (j_sl g lv)) (hH : j_H g ad B D cA cl s H hp) (hS : va_S (j_A B) s.heap H locs) (hc : cells + dc ≤ R.cells) (hs : slots + ds ≤ R.slots)
    (kk : ∀ (H' : Heap) (locs' : List Loc) (ls' : Array Slot), lv_has ls' nL (j_sl g lv') → j_H g ad B D cA cl s H' hp' → va_S (j_A B) s.heap H' locs' → W p l e R s m args below meth c H' locs' (cells + dc) (slots + ds) Q (F0 m pc' ls' (st'.map (j_rv g)))) : W p l e R s m args below meth c H locs cells slots Q (F0 m pc ls (st.map (j_rv g))) := by
  obtain ⟨hG, hx, hb, hml, hown, hts, hlocks, hname, hK, hSt, hKs, hBs⟩ := hC
  subst hlen
  obtain ⟨q, hq, hX⟩ := j_go_some h
  obtain ⟨i, a, r, t, la, v, rfl, ha, ht, hi, hv, rfl⟩ := j_ald_some hq
  cases hX
  have ht' : t = 1 := by simpa using ht
  subst ht'
  obtain ⟨cell, e1, e2, e3, e4, e5, e6, e7⟩ := j_arr hG hK hH ha
  show W p l e R s m args below meth c H locs _ _ Q (F0 m pc ls (.int i :: g a :: _))
  rw [e1]
  have hlt := (List.getElem?_eq_some_iff.mp hv).1
  exact W.lald (v := j_rv g v) hx hb e2 e3 e4 (fun z => z.elim hi (fun z => by omega)) (e7 _ _ hv) rfl rfl hd (kk H locs ls hl hH hS)
theorem j_s_caload (hC : j_Cx g ad B D cA cl TW zs ks own nm cc nL p s m args meth c) (hkd : j_kd cl TW df ∧ cl[99]? = none ∧ ∀ rr : vw_C, cl[4]? = some rr → rr.1 = "HundredWords$Row") (hd : decode cc pc = .ok (.caload, len)) (hlen : len = j_len (.caload)) (hlk : j_lk own nm cl TW zs ks pc (.caload, len, l1, l2, val, ty)) (h : jstep df nL pc (.caload, len, l1, l2, val, ty) lv st hp = some (pc', lv', st', hp', dc, ds)) (hl : lv_has ls nL (j_sl g lv)) (hH : j_H g ad B D cA cl s H hp) (hS : va_S (j_A B) s.heap H locs) (hc : cells + dc ≤ R.cells) (hs : slots + ds ≤ R.slots)
    (kk : ∀ (H' : Heap) (locs' : List Loc) (ls' : Array Slot), lv_has ls' nL (j_sl g lv') → j_H g ad B D cA cl s H' hp' → va_S (j_A B) s.heap H' locs' → W p l e R s m args below meth c H' locs' (cells + dc) (slots + ds) Q (F0 m pc' ls' (st'.map (j_rv g)))) : W p l e R s m args below meth c H locs cells slots Q (F0 m pc ls (st.map (j_rv g))) := by
  obtain ⟨hG, hx, hb, hml, hown, hts, hlocks, hname, hK, hSt, hKs, hBs⟩ := hC
  subst hlen
  obtain ⟨q, hq, hX⟩ := j_go_some h
  obtain ⟨i, a, r, t, la, v, rfl, ha, ht, hi, hv, rfl⟩ := j_ald_some hq
  cases hX
  have ht' : t = 2 := by simpa using ht
  subst ht'
  obtain ⟨cell, e1, e2, e3, e4, e5, e6, e7⟩ := j_arr hG hK hH ha
  show W p l e R s m args below meth c H locs _ _ Q (F0 m pc ls (.int i :: g a :: _))
  rw [e1]
  have hlt := (List.getElem?_eq_some_iff.mp hv).1
  exact W.cald (v := j_rv g v) hx hb e2 e3 e4 (fun z => z.elim hi (fun z => by omega)) (e7 _ _ hv) rfl rfl hd (kk H locs ls hl hH hS)
theorem j_s_aaload (hC : j_Cx g ad B D cA cl TW zs ks own nm cc nL p s m args meth c) (hkd : j_kd cl TW df ∧ cl[99]? = none ∧ ∀ rr : vw_C, cl[4]? = some rr → rr.1 = "HundredWords$Row") (hd : decode cc pc = .ok (.aaload, len)) (hlen : len = j_len (.aaload)) (hlk : j_lk own nm cl TW zs ks pc (.aaload, len, l1, l2, val, ty)) (h : jstep df nL pc (.aaload, len, l1, l2, val, ty) lv st hp = some (pc', lv', st', hp', dc, ds)) (hl : lv_has ls nL (j_sl g lv)) (hH : j_H g ad B D cA cl s H hp) (hS : va_S (j_A B) s.heap H locs) (hc : cells + dc ≤ R.cells) (hs : slots + ds ≤ R.slots)
    (kk : ∀ (H' : Heap) (locs' : List Loc) (ls' : Array Slot), lv_has ls' nL (j_sl g lv') → j_H g ad B D cA cl s H' hp' → va_S (j_A B) s.heap H' locs' → W p l e R s m args below meth c H' locs' (cells + dc) (slots + ds) Q (F0 m pc' ls' (st'.map (j_rv g)))) : W p l e R s m args below meth c H locs cells slots Q (F0 m pc ls (st.map (j_rv g))) := by
  obtain ⟨hG, hx, hb, hml, hown, hts, hlocks, hname, hK, hSt, hKs, hBs⟩ := hC
  subst hlen
  obtain ⟨q, hq, hX⟩ := j_go_some h
  obtain ⟨i, a, r, t, la, v, rfl, ha, ht, hi, hv, rfl⟩ := j_ald_some hq
  cases hX
  have ht' : t = 4 := by simpa using ht
  subst ht'
  obtain ⟨cell, e1, e2, e3, e4, e5, e6, e7⟩ := j_arr hG hK hH ha
  show W p l e R s m args below meth c H locs _ _ Q (F0 m pc ls (.int i :: g a :: _))
  rw [e1]
  have hlt := (List.getElem?_eq_some_iff.mp hv).1
  exact W.aald (v := j_rv g v) hx hb e2 e3 rfl e4 (fun z => z.elim hi (fun z => by omega)) (e7 _ _ hv) rfl rfl hd (kk H locs ls hl hH hS)
theorem j_s_baload (hC : j_Cx g ad B D cA cl TW zs ks own nm cc nL p s m args meth c) (hkd : j_kd cl TW df ∧ cl[99]? = none ∧ ∀ rr : vw_C, cl[4]? = some rr → rr.1 = "HundredWords$Row") (hd : decode cc pc = .ok (.baload, len)) (hlen : len = j_len (.baload)) (hlk : j_lk own nm cl TW zs ks pc (.baload, len, l1, l2, val, ty)) (h : jstep df nL pc (.baload, len, l1, l2, val, ty) lv st hp = some (pc', lv', st', hp', dc, ds)) (hl : lv_has ls nL (j_sl g lv)) (hH : j_H g ad B D cA cl s H hp) (hS : va_S (j_A B) s.heap H locs) (hc : cells + dc ≤ R.cells) (hs : slots + ds ≤ R.slots)
    (kk : ∀ (H' : Heap) (locs' : List Loc) (ls' : Array Slot), lv_has ls' nL (j_sl g lv') → j_H g ad B D cA cl s H' hp' → va_S (j_A B) s.heap H' locs' → W p l e R s m args below meth c H' locs' (cells + dc) (slots + ds) Q (F0 m pc' ls' (st'.map (j_rv g)))) : W p l e R s m args below meth c H locs cells slots Q (F0 m pc ls (st.map (j_rv g))) := by
  obtain ⟨hG, hx, hb, hml, hown, hts, hlocks, hname, hK, hSt, hKs, hBs⟩ := hC
  subst hlen
  obtain ⟨q, hq, hX⟩ := j_go_some h
  obtain ⟨i, a, r, t, la, v, rfl, ha, ht, hi, hv, rfl⟩ := j_ald_some hq
  cases hX
  obtain ⟨cell, e1, e2, e3, e4, e5, e6, e7⟩ := j_arr hG hK hH ha
  show W p l e R s m args below meth c H locs _ _ Q (F0 m pc ls (.int i :: g a :: _))
  rw [e1]
  have hlt := (List.getElem?_eq_some_iff.mp hv).1
  have ht' : t = 3 ∨ t = 5 := by simpa using ht
  rcases ht' with rfl | rfl
  · exact W.zald (v := j_rv g v) hx hb e2 e3 e4 (fun z => z.elim hi (fun z => by omega)) (e7 _ _ hv) rfl rfl hd (kk H locs ls hl hH hS)
  · exact W.bald (v := j_rv g v) hx hb e2 e3 e4 (fun z => z.elim hi (fun z => by omega)) (e7 _ _ hv) rfl rfl hd (kk H locs ls hl hH hS)
theorem j_s_iastore (hC : j_Cx g ad B D cA cl TW zs ks own nm cc nL p s m args meth c) (hkd : j_kd cl TW df ∧ cl[99]? = none ∧ ∀ rr : vw_C, cl[4]? = some rr → rr.1 = "HundredWords$Row") (hd : decode cc pc = .ok (.iastore, len)) (hlen : len = j_len (.iastore)) (hlk : j_lk own nm cl TW zs ks pc (.iastore, len, l1, l2, val, ty)) (h : jstep df nL pc (.iastore, len, l1, l2, val, ty) lv st hp = some (pc', lv', st', hp', dc, ds)) (hl : lv_has ls nL (j_sl g lv)) (hH : j_H g ad B D cA cl s H hp) (hS : va_S (j_A B) s.heap H locs) (hc : cells + dc ≤ R.cells) (hs : slots + ds ≤ R.slots)
    (kk : ∀ (H' : Heap) (locs' : List Loc) (ls' : Array Slot), lv_has ls' nL (j_sl g lv') → j_H g ad B D cA cl s H' hp' → va_S (j_A B) s.heap H' locs' → W p l e R s m args below meth c H' locs' (cells + dc) (slots + ds) Q (F0 m pc' ls' (st'.map (j_rv g)))) : W p l e R s m args below meth c H locs cells slots Q (F0 m pc ls (st.map (j_rv g))) := by
  obtain ⟨hG, hx, hb, hml, hown, hts, hlocks, hname, hK, hSt, hKs, hBs⟩ := hC
  subst hlen
  cases st with
  | nil => cases h
  | cons v r0 =>
    cases v with
    | int x =>
      cases r0 with
      | nil => cases h
      | cons v2 r1 =>
        cases v2 with
        | int i =>
          cases r1 with
          | nil => cases h
          | cons v3 r =>
            cases v3 with
            | ref a =>
              change (match j_ast hp a 0 i (.int x) with | some hp' => some (pc + 1, lv, r, hp', 0, 0) | none => none) = some _ at h
              split at h
              · rename_i hp2 hq
                cases h
                obtain ⟨la, ha, h9, hi, hlt, rfl⟩ := j_ast_some hq
                obtain ⟨cell, e1, e2, e3, e4, e5, e6, e7⟩ := j_arr hG hK hH ha
                show W p l e R s m args below meth c H locs _ _ Q (F0 m pc ls (.int x :: .int i :: g a :: _))
                rw [e1]
                refine W.iast hx hb e2 e3 e4 (fun z => z.elim hi (fun z => by omega)) rfl rfl hd (fun H1 f1 f2 f3 => ?_)
                refine kk H1 _ ls hl (j_stored (v := .int x) hG hH ha h9 hlt f2 f3 (fun cell2 hc2 => ?_)) (hS.put f2 f3 (by show B ≤ ad a; rw [hG.2.2.1 a h9]; omega))
                cases hc2.symm.trans e2
                exact f1
              · cases h
            | _ => cases h
        | _ => cases h
    | _ => cases h
theorem j_s_lastore (hC : j_Cx g ad B D cA cl TW zs ks own nm cc nL p s m args meth c) (hkd : j_kd cl TW df ∧ cl[99]? = none ∧ ∀ rr : vw_C, cl[4]? = some rr → rr.1 = "HundredWords$Row") (hd : decode cc pc = .ok (.lastore, len)) (hlen : len = j_len (.lastore)) (hlk : j_lk own nm cl TW zs ks pc (.lastore, len, l1, l2, val, ty)) (h : jstep df nL pc (.lastore, len, l1, l2, val, ty) lv st hp = some (pc', lv', st', hp', dc, ds)) (hl : lv_has ls nL (j_sl g lv)) (hH : j_H g ad B D cA cl s H hp) (hS : va_S (j_A B) s.heap H locs) (hc : cells + dc ≤ R.cells) (hs : slots + ds ≤ R.slots)
    (kk : ∀ (H' : Heap) (locs' : List Loc) (ls' : Array Slot), lv_has ls' nL (j_sl g lv') → j_H g ad B D cA cl s H' hp' → va_S (j_A B) s.heap H' locs' → W p l e R s m args below meth c H' locs' (cells + dc) (slots + ds) Q (F0 m pc' ls' (st'.map (j_rv g)))) : W p l e R s m args below meth c H locs cells slots Q (F0 m pc ls (st.map (j_rv g))) := by
  obtain ⟨hG, hx, hb, hml, hown, hts, hlocks, hname, hK, hSt, hKs, hBs⟩ := hC
  subst hlen
  cases st with
  | nil => cases h
  | cons v r0 =>
    cases v with
    | long x =>
      cases r0 with
      | nil => cases h
      | cons v2 r1 =>
        cases v2 with
        | int i =>
          cases r1 with
          | nil => cases h
          | cons v3 r =>
            cases v3 with
            | ref a =>
              change (match j_ast hp a 1 i (.long x) with | some hp' => some (pc + 1, lv, r, hp', 0, 0) | none => none) = some _ at h
              split at h
              · rename_i hp2 hq
                cases h
                obtain ⟨la, ha, h9, hi, hlt, rfl⟩ := j_ast_some hq
                obtain ⟨cell, e1, e2, e3, e4, e5, e6, e7⟩ := j_arr hG hK hH ha
                show W p l e R s m args below meth c H locs _ _ Q (F0 m pc ls (.long x :: .int i :: g a :: _))
                rw [e1]
                refine W.last hx hb e2 e3 e4 (fun z => z.elim hi (fun z => by omega)) rfl rfl hd (fun H1 f1 f2 f3 => ?_)
                refine kk H1 _ ls hl (j_stored (v := .long x) hG hH ha h9 hlt f2 f3 (fun cell2 hc2 => ?_)) (hS.put f2 f3 (by show B ≤ ad a; rw [hG.2.2.1 a h9]; omega))
                cases hc2.symm.trans e2
                exact f1
              · cases h
            | _ => cases h
        | _ => cases h
    | _ => cases h
theorem j_s_castore (hC : j_Cx g ad B D cA cl TW zs ks own nm cc nL p s m args meth c) (hkd : j_kd cl TW df ∧ cl[99]? = none ∧ ∀ rr : vw_C, cl[4]? = some rr → rr.1 = "HundredWords$Row") (hd : decode cc pc = .ok (.castore, len)) (hlen : len = j_len (.castore)) (hlk : j_lk own nm cl TW zs ks pc (.castore, len, l1, l2, val, ty)) (h : jstep df nL pc (.castore, len, l1, l2, val, ty) lv st hp = some (pc', lv', st', hp', dc, ds)) (hl : lv_has ls nL (j_sl g lv)) (hH : j_H g ad B D cA cl s H hp) (hS : va_S (j_A B) s.heap H locs) (hc : cells + dc ≤ R.cells) (hs : slots + ds ≤ R.slots)
    (kk : ∀ (H' : Heap) (locs' : List Loc) (ls' : Array Slot), lv_has ls' nL (j_sl g lv') → j_H g ad B D cA cl s H' hp' → va_S (j_A B) s.heap H' locs' → W p l e R s m args below meth c H' locs' (cells + dc) (slots + ds) Q (F0 m pc' ls' (st'.map (j_rv g)))) : W p l e R s m args below meth c H locs cells slots Q (F0 m pc ls (st.map (j_rv g))) := by
  obtain ⟨hG, hx, hb, hml, hown, hts, hlocks, hname, hK, hSt, hKs, hBs⟩ := hC
  subst hlen
  cases st with
  | nil => cases h
  | cons v r0 =>
    cases v with
    | int x =>
      cases r0 with
      | nil => cases h
      | cons v2 r1 =>
        cases v2 with
        | int i =>
          cases r1 with
          | nil => cases h
          | cons v3 r =>
            cases v3 with
            | ref a =>
              change (match j_ast hp a 2 i (narrow .char (.int x)) with | some hp' => some (pc + 1, lv, r, hp', 0, 0) | none => none) = some _ at h
              split at h
              · rename_i hp2 hq
                cases h
                obtain ⟨la, ha, h9, hi, hlt, rfl⟩ := j_ast_some hq
                obtain ⟨cell, e1, e2, e3, e4, e5, e6, e7⟩ := j_arr hG hK hH ha
                show W p l e R s m args below meth c H locs _ _ Q (F0 m pc ls (.int x :: .int i :: g a :: _))
                rw [e1]
                refine W.cast hx hb e2 e3 e4 (fun z => z.elim hi (fun z => by omega)) rfl rfl hd (fun H1 f1 f2 f3 => ?_)
                refine kk H1 _ ls hl (j_stored (v := narrow .char (.int x)) hG hH ha h9 hlt f2 f3 (fun cell2 hc2 => ?_)) (hS.put f2 f3 (by show B ≤ ad a; rw [hG.2.2.1 a h9]; omega))
                cases hc2.symm.trans e2
                exact f1
              · cases h
            | _ => cases h
        | _ => cases h
    | _ => cases h
theorem j_s_bastore (hC : j_Cx g ad B D cA cl TW zs ks own nm cc nL p s m args meth c) (hkd : j_kd cl TW df ∧ cl[99]? = none ∧ ∀ rr : vw_C, cl[4]? = some rr → rr.1 = "HundredWords$Row") (hd : decode cc pc = .ok (.bastore, len)) (hlen : len = j_len (.bastore)) (hlk : j_lk own nm cl TW zs ks pc (.bastore, len, l1, l2, val, ty)) (h : jstep df nL pc (.bastore, len, l1, l2, val, ty) lv st hp = some (pc', lv', st', hp', dc, ds)) (hl : lv_has ls nL (j_sl g lv)) (hH : j_H g ad B D cA cl s H hp) (hS : va_S (j_A B) s.heap H locs) (hc : cells + dc ≤ R.cells) (hs : slots + ds ≤ R.slots)
    (kk : ∀ (H' : Heap) (locs' : List Loc) (ls' : Array Slot), lv_has ls' nL (j_sl g lv') → j_H g ad B D cA cl s H' hp' → va_S (j_A B) s.heap H' locs' → W p l e R s m args below meth c H' locs' (cells + dc) (slots + ds) Q (F0 m pc' ls' (st'.map (j_rv g)))) : W p l e R s m args below meth c H locs cells slots Q (F0 m pc ls (st.map (j_rv g))) := by
  obtain ⟨hG, hx, hb, hml, hown, hts, hlocks, hname, hK, hSt, hKs, hBs⟩ := hC
  subst hlen
  cases st with
  | nil => cases h
  | cons v r0 =>
    cases v with
    | int x =>
      cases r0 with
      | nil => cases h
      | cons v2 r1 =>
        cases v2 with
        | int i =>
          cases r1 with
          | nil => cases h
          | cons v3 r =>
            cases v3 with
            | ref a =>
              change (match j_ast hp a 3 i (narrow .boolean (.int x)) with | some hp' => some (pc + 1, lv, r, hp', 0, 0) | none => none) = some _ at h
              split at h
              · rename_i hp2 hq
                cases h
                obtain ⟨la, ha, h9, hi, hlt, rfl⟩ := j_ast_some hq
                obtain ⟨cell, e1, e2, e3, e4, e5, e6, e7⟩ := j_arr hG hK hH ha
                show W p l e R s m args below meth c H locs _ _ Q (F0 m pc ls (.int x :: .int i :: g a :: _))
                rw [e1]
                refine W.zast hx hb e2 e3 e4 (fun z => z.elim hi (fun z => by omega)) rfl rfl hd (fun H1 f1 f2 f3 => ?_)
                refine kk H1 _ ls hl (j_stored (v := narrow .boolean (.int x)) hG hH ha h9 hlt f2 f3 (fun cell2 hc2 => ?_)) (hS.put f2 f3 (by show B ≤ ad a; rw [hG.2.2.1 a h9]; omega))
                cases hc2.symm.trans e2
                exact f1
              · cases h
            | _ => cases h
        | _ => cases h
    | _ => cases h
theorem j_s_aastore (hC : j_Cx g ad B D cA cl TW zs ks own nm cc nL p s m args meth c) (hkd : j_kd cl TW df ∧ cl[99]? = none ∧ ∀ rr : vw_C, cl[4]? = some rr → rr.1 = "HundredWords$Row") (hd : decode cc pc = .ok (.aastore, len)) (hlen : len = j_len (.aastore)) (hlk : j_lk own nm cl TW zs ks pc (.aastore, len, l1, l2, val, ty)) (h : jstep df nL pc (.aastore, len, l1, l2, val, ty) lv st hp = some (pc', lv', st', hp', dc, ds)) (hl : lv_has ls nL (j_sl g lv)) (hH : j_H g ad B D cA cl s H hp) (hS : va_S (j_A B) s.heap H locs) (hc : cells + dc ≤ R.cells) (hs : slots + ds ≤ R.slots)
    (kk : ∀ (H' : Heap) (locs' : List Loc) (ls' : Array Slot), lv_has ls' nL (j_sl g lv') → j_H g ad B D cA cl s H' hp' → va_S (j_A B) s.heap H' locs' → W p l e R s m args below meth c H' locs' (cells + dc) (slots + ds) Q (F0 m pc' ls' (st'.map (j_rv g)))) : W p l e R s m args below meth c H locs cells slots Q (F0 m pc ls (st.map (j_rv g))) := by
  obtain ⟨hG, hx, hb, hml, hown, hts, hlocks, hname, hK, hSt, hKs, hBs⟩ := hC
  subst hlen
  cases st with
  | nil => cases h
  | cons v r0 =>
    cases v with
    | ref x =>
      cases r0 with
      | nil => cases h
      | cons v2 r1 =>
        cases v2 with
        | int i =>
          cases r1 with
          | nil => cases h
          | cons v3 r =>
            cases v3 with
            | ref a =>
              change (match j_nth hp x with
                | some (false, ci, _) => cond (Nat.beq ci 4 && Nat.ble 9 x) (match j_ast hp a 4 i (.ref x) with | some hp' => some (pc + 1, lv, r, hp', 0, 0) | none => none) none
                | _ => none) = some _ at h
              split at h
              · rename_i ci fs hvx
                rw [j_nth_eq] at hvx
                cases hb1 : Nat.beq ci 4 && Nat.ble 9 x with
                | false => rw [hb1] at h; cases h
                | true =>
                  rw [hb1] at h
                  change (match j_ast hp a 4 i (.ref x) with | some hp' => some (pc + 1, lv, r, hp', 0, 0) | none => none) = some _ at h
                  rw [Bool.and_eq_true] at hb1
                  have e0 : ci = 4 := Nat.eq_of_beq_eq_true hb1.1
                  subst e0
                  have h9x := Nat.le_of_ble_eq_true hb1.2
                  split at h
                  · rename_i hp2 hq
                    cases h
                    obtain ⟨la, ha, h9, hi, hlt, rfl⟩ := j_ast_some hq
                    have hinx := hH.2.2.2 x _ hvx
                    unfold j_in at hinx
                    rw [if_neg (by omega)] at hinx
                    obtain ⟨rr, g1, g2, cellx, g3, g4, g5, g6⟩ := hinx.2 rfl
                    have hina := hH.2.2.2 a _ ha
                    unfold j_in at hina
                    rw [if_neg (by omega)] at hina
                    obtain ⟨ht, e2⟩ := hina.1 rfl
                    obtain ⟨kA, comp, q1, q2, q3, -⟩ : va_RA s (cA 4) (.object "HundredWords$Row") := (hK.2 4 _ (j_tys_at cA (by omega))).2
                    obtain ⟨hSl, hfc, kC, hkC, hkind⟩ := hK.1 4 _ g1
                    have hC4 : rr.1 = "HundredWords$Row" := hkd.2.2 rr g1
                    have hcomp : comp = D.1 4 := Option.some.inj (q3.symm.trans (by rw [← hC4]; exact hfc))
                    subst hcomp
                    show W p l e R s m args below meth c H locs _ _ Q (F0 m pc ls (g x :: .int i :: g a :: _))
                    rw [hG.ref h9x, hG.ref h9]
                    refine W.aast hx hb e2 (fun q z => by cases z) (fun z => by cases z) q1 q2 rfl hkC ⟨hi, by rw [arrV_size]; exact hlt⟩ g3 (fun q z => by rw [g5] at z; cases z) (by rw [g4]; exact hkC) (by rw [g4]; exact va_asg _ _) rfl rfl hd (fun H1 f1 f2 f3 => ?_)
                    refine kk H1 _ ls hl (j_stored (v := .ref x) hG hH ha h9 hlt f2 f3 (fun cell2 hc2 => ?_)) (hS.put f2 f3 (by show B ≤ ad a; rw [hG.2.2.1 a h9]; omega))
                    cases hc2.symm.trans e2
                    show _ = some (Cell.setSlot _ _ (g x))
                    rw [hG.ref h9x]
                    exact f1
                  · cases h
              · cases h
            | _ => cases h
        | _ => cases h
    | _ => cases h
theorem j_s_new {i : Nat} (hC : j_Cx g ad B D cA cl TW zs ks own nm cc nL p s m args meth c) (hkd : j_kd cl TW df ∧ cl[99]? = none ∧ ∀ rr : vw_C, cl[4]? = some rr → rr.1 = "HundredWords$Row") (hd : decode cc pc = .ok (.new i, len)) (hlen : len = j_len (.new i)) (hlk : j_lk own nm cl TW zs ks pc (.new i, len, l1, l2, val, ty)) (h : jstep df nL pc (.new i, len, l1, l2, val, ty) lv st hp = some (pc', lv', st', hp', dc, ds)) (hl : lv_has ls nL (j_sl g lv)) (hH : j_H g ad B D cA cl s H hp) (hS : va_S (j_A B) s.heap H locs) (hc : cells + dc ≤ R.cells) (hs : slots + ds ≤ R.slots)
    (kk : ∀ (H' : Heap) (locs' : List Loc) (ls' : Array Slot), lv_has ls' nL (j_sl g lv') → j_H g ad B D cA cl s H' hp' → va_S (j_A B) s.heap H' locs' → W p l e R s m args below meth c H' locs' (cells + dc) (slots + ds) Q (F0 m pc' ls' (st'.map (j_rv g)))) : W p l e R s m args below meth c H locs cells slots Q (F0 m pc ls (st.map (j_rv g))) := by
  obtain ⟨hG, hx, hb, hml, hown, hts, hlocks, hname, hK, hSt, hKs, hBs⟩ := hC
  subst hlen
  cases h
  obtain ⟨C, T, N, h1, h2, h3, h4⟩ := hlk
  change cl[l1]? = some (C, T, N) at h1
  obtain ⟨hin2, ⟨ty0, hty, hdl, hdv⟩, hnm⟩ := hkd.1 l1 C T N h1
  obtain ⟨hSl, hfc, kC0, hkC0, hkind⟩ := hK.1 l1 _ h1
  have hsz := hH.2.1
  have had := j_H_ad hG hH
  rw [hdl] at hs
  refine W.newcK hx hb hown (hts _ h2) (hts _ h3) (hts _ h4) rfl hd hc hs hfc rfl (fun H1 kC e0 e1 e2 e3 => ?_)
  cases hkC0.symm.trans e0
  have kk2 := kk H1 locs ls hl (hH.push hG e2 e3 ?_) ⟨by rw [e2]; exact Nat.le_succ_of_le hS.1, fun q q1 q2 => (e3 q (Nat.lt_of_lt_of_le q1 hS.1)).trans (hS.2.1 q q1 q2), hS.2.2⟩
  · change W p l e R s m args below meth c H1 locs _ _ Q (F0 m _ ls (g hp.length :: st.map (j_rv g))) at kk2
    rw [hG.ref hH.1, had, hdl] at kk2
    exact kk2
  · unfold j_in
    rw [if_neg (by have := hH.1; omega)]
    refine ⟨(fun z => by cases z), fun _ => ⟨_, h1, hdl, blank (D.1 l1) kC0, by rw [had]; exact e1, rfl, rfl, fun k hk => ?_⟩⟩
    obtain ⟨cf, kf, fi, f, hi, hsl⟩ := hSl k hk
    obtain ⟨-, -, hty2⟩ := u_facts hfc hkC0 (u_lays hts hin2 hk) hi
    have hdk := hdv k hk
    show (kC0.instanceTypes.map defaultValue)[D.2 l1 k]? = some (j_rv g ((df l1).getD k .null))
    rw [← hsl, Array.getElem?_map, hty2, (State.fieldFound?_type hi (hty k hk)).2]
    simp only [Option.map_some, List.getD_eq_getElem?_getD, hdk, Option.getD_some]
    congr 1
    cases ty0 k <;> rfl
theorem j_s_newarray {t : ArrayType} (hC : j_Cx g ad B D cA cl TW zs ks own nm cc nL p s m args meth c) (hkd : j_kd cl TW df ∧ cl[99]? = none ∧ ∀ rr : vw_C, cl[4]? = some rr → rr.1 = "HundredWords$Row") (hd : decode cc pc = .ok (.newarray t, len)) (hlen : len = j_len (.newarray t)) (hlk : j_lk own nm cl TW zs ks pc (.newarray t, len, l1, l2, val, ty)) (h : jstep df nL pc (.newarray t, len, l1, l2, val, ty) lv st hp = some (pc', lv', st', hp', dc, ds)) (hl : lv_has ls nL (j_sl g lv)) (hH : j_H g ad B D cA cl s H hp) (hS : va_S (j_A B) s.heap H locs) (hc : cells + dc ≤ R.cells) (hs : slots + ds ≤ R.slots)
    (kk : ∀ (H' : Heap) (locs' : List Loc) (ls' : Array Slot), lv_has ls' nL (j_sl g lv') → j_H g ad B D cA cl s H' hp' → va_S (j_A B) s.heap H' locs' → W p l e R s m args below meth c H' locs' (cells + dc) (slots + ds) Q (F0 m pc' ls' (st'.map (j_rv g)))) : W p l e R s m args below meth c H locs cells slots Q (F0 m pc ls (st.map (j_rv g))) := by
  obtain ⟨hG, hx, hb, hml, hown, hts, hlocks, hname, hK, hSt, hKs, hBs⟩ := hC
  subst hlen
  cases st with
  | nil => cases h
  | cons v r =>
    cases v with
    | int n =>
      change (if n < 0 then none else cond (Nat.ble n.toNatClampNeg 60000000) (some (pc + 2, lv, .ref hp.length :: r, hp ++ [(true, l1, List.replicate n.toNatClampNeg val)], 1, n.toNatClampNeg)) none) = some _ at h
      split at h
      · cases h
      · rename_i hn
        cases hb1 : Nat.ble n.toNatClampNeg 60000000 with
        | false => rw [hb1] at h; cases h
        | true =>
          rw [hb1] at h
          cases h
          obtain ⟨h1, h2, h3, h4⟩ := hlk
          change newarray.typeOf t = j_ty l1 at h1
          change l1 < 4 at h2
          change val = defaultValue (j_ty l1) at h4
          have hbyt : componentBytes (newarray.typeOf t) ≤ 8 := by
            rw [h1]
            match l1, h2 with
            | 0, _ => decide
            | 1, _ => decide
            | 2, _ => decide
            | 3, _ => decide
          have hle := Nat.le_of_ble_eq_true hb1
          have hbytes : n.toNatClampNeg * componentBytes (newarray.typeOf t) ≤ 536870912 := by
            have := Nat.mul_le_mul hle hbyt
            omega
          refine va_newaK hx hb (by rw [h1]; exact hts _ h3) rfl hd rfl hn rfl hbytes hc hs rfl (fun H1 cA1 e1 e2 e3 e4 e5 => ?_)
          have hcA : cA1 = cA l1 := by
            have q1 := (hK.2 l1 _ (j_tys_at cA (by omega))).2
            rw [h1] at e5
            have q2 : s.vm.findClass ("[" ++ (j_ty l1).toString) = some (cA l1) := by
              match l1, h2, q1 with
              | 0, _, q1 => exact q1
              | 1, _, q1 => exact q1
              | 2, _, q1 => exact q1
              | 3, _, q1 => exact q1
            exact Option.some.inj (e5.symm.trans q2)
          subst hcA
          have had := j_H_ad hG hH
          have kk2 := kk H1 locs ls hl (hH.push hG e2 e3 ?_) ⟨by rw [e2]; exact Nat.le_succ_of_le hS.1, fun q q1 q2 => (e3 q (Nat.lt_of_lt_of_le q1 hS.1)).trans (hS.2.1 q q1 q2), hS.2.2⟩
          · change W p l e R s m args below meth c H1 locs _ _ Q (F0 m _ ls (g hp.length :: r.map (j_rv g))) at kk2
            rw [hG.ref hH.1, had] at kk2
            exact kk2
          · unfold j_in
            rw [if_neg (by have := hH.1; omega)]
            refine ⟨fun _ => ⟨by show l1 < 6; omega, ?_⟩, (fun z => by cases z)⟩
            rw [had, e1, h1]
            show some (arrV (cA l1) _ _) = some (arrV (cA l1) (List.replicate n.toNatClampNeg val).length _)
            rw [List.length_replicate]
            congr 1
            apply arrV_congr
            intro j hj
            simp only [List.getD_eq_getElem?_getD, List.getElem?_replicate, hj, if_true, Option.getD_some]
            rw [h4]
            match l1, h2 with
            | 0, _ => rfl
            | 1, _ => rfl
            | 2, _ => rfl
            | 3, _ => rfl
    | _ => cases h
theorem j_s_anewarray {i : Nat} (hC : j_Cx g ad B D cA cl TW zs ks own nm cc nL p s m args meth c) (hkd : j_kd cl TW df ∧ cl[99]? = none ∧ ∀ rr : vw_C, cl[4]? = some rr → rr.1 = "HundredWords$Row") (hd : decode cc pc = .ok (.anewarray i, len)) (hlen : len = j_len (.anewarray i)) (hlk : j_lk own nm cl TW zs ks pc (.anewarray i, len, l1, l2, val, ty)) (h : jstep df nL pc (.anewarray i, len, l1, l2, val, ty) lv st hp = some (pc', lv', st', hp', dc, ds)) (hl : lv_has ls nL (j_sl g lv)) (hH : j_H g ad B D cA cl s H hp) (hS : va_S (j_A B) s.heap H locs) (hc : cells + dc ≤ R.cells) (hs : slots + ds ≤ R.slots)
    (kk : ∀ (H' : Heap) (locs' : List Loc) (ls' : Array Slot), lv_has ls' nL (j_sl g lv') → j_H g ad B D cA cl s H' hp' → va_S (j_A B) s.heap H' locs' → W p l e R s m args below meth c H' locs' (cells + dc) (slots + ds) Q (F0 m pc' ls' (st'.map (j_rv g)))) : W p l e R s m args below meth c H locs cells slots Q (F0 m pc ls (st.map (j_rv g))) := by
  obtain ⟨hG, hx, hb, hml, hown, hts, hlocks, hname, hK, hSt, hKs, hBs⟩ := hC
  subst hlen
  cases st with
  | nil => cases h
  | cons v r =>
    cases v with
    | int n =>
      change (if n < 0 then none else cond (Nat.ble n.toNatClampNeg 60000000) (some (pc + 3, lv, .ref hp.length :: r, hp ++ [(true, 4, List.replicate n.toNatClampNeg .null)], 1, n.toNatClampNeg)) none) = some _ at h
      split at h
      · cases h
      · rename_i hn
        cases hb1 : Nat.ble n.toNatClampNeg 60000000 with
        | false => rw [hb1] at h; cases h
        | true =>
          rw [hb1] at h
          cases h
          have hle := Nat.le_of_ble_eq_true hb1
          refine W.anew hx hb hown (hts _ hlk.1) (va_AO.use (hKs.2 _ hlk.2).2) rfl hd rfl hn (by omega) hc hs (fun cA1 kA comp e1 e2 e3 e4 => ?_)
          have hcA : cA1 = cA 4 := by
            obtain ⟨kA', comp', q1, q2, q3, q4⟩ : va_RA s (cA 4) (.object "HundredWords$Row") := (hK.2 4 _ (j_tys_at cA (by omega))).2
            exact Option.some.inj (e1.symm.trans q4)
          subst hcA
          have had := j_H_ad hG hH
          have kk2 := kk (H.push { cls := cA 4, slots := Array.replicate n.toNatClampNeg .null, vm := .none }) locs ls hl (hH.push hG (by simp) (fun q hq => by rw [Array.getElem?_push, if_neg (Nat.ne_of_lt hq)]) ?_) ⟨by simp; exact Nat.le_succ_of_le hS.1, fun q q1 q2 => by rw [Array.getElem?_push, if_neg (Nat.ne_of_lt (Nat.lt_of_lt_of_le q1 hS.1))]; exact hS.2.1 q q1 q2, hS.2.2⟩
          · change W p l e R s m args below meth c _ locs _ _ Q (F0 m _ ls (g hp.length :: r.map (j_rv g))) at kk2
            rw [hG.ref hH.1, had] at kk2
            exact kk2
          · unfold j_in
            rw [if_neg (by have := hH.1; omega)]
            refine ⟨fun _ => ⟨by show 4 < 6; omega, ?_⟩, (fun z => by cases z)⟩
            rw [had, arrV_new]
            simp only [Array.getElem?_push_size]
            show some (arrV (cA 4) _ _) = some (arrV (cA 4) (List.replicate n.toNatClampNeg Value.null).length _)
            rw [List.length_replicate]
            congr 1
            apply arrV_congr
            intro j hj
            simp only [List.getD_eq_getElem?_getD, List.getElem?_replicate, hj, if_true, Option.getD_some]
            rfl
    | _ => cases h
end JS
end
section
/-! THE SMALL MACHINE'S RUNS AGAINST THE LARGE ONE'S WALKS. -/
def j_cal (yn : Nat → MethodName) (bt : Nat → ByteArray) (rt : Nat → Option FieldType) (mx : Nat → Nat) (own : Nat → String) (TW : List Cond) (j : Nat) : Prop :=
  Cond.code (yn j) (bt j) (mx j) (rt j) ∈ TW ∧ Cond.initialized (yn j).cls ∈ TW ∧ plainName (yn j).cls = true ∧ ((yn j).cls ≠ "java/lang/invoke/MethodHandle" ∧ (yn j).cls ≠ "java/lang/invoke/VarHandle") ∧ own j = (yn j).cls
/-- what an entry of method k's code needs -/
def j_ok (yn : Nat → MethodName) (bt : Nat → ByteArray) (rt : Nat → Option FieldType) (mx rc : Nat → Nat) (own : Nat → String) (cl : List vw_C) (TW : List Cond) (zs : List (String × String × String × Value)) (ks : jK) (k pc : Nat) (e : jE) : Prop :=
  decode (bt k) pc = .ok (e.1, e.2.1) ∧ j_lk (own k) (yn k).name cl TW zs ks pc e ∧
  match e.1 with
  | .tableswitch _ _ _ _ => True
  | .lookupswitch _ _ => True
  | .ireturn => e.2.1 = 1 ∧ rt k = some e.2.2.2.2.2
  | .lreturn => e.2.1 = 1 ∧ rt k = some .long
  | .areturn => e.2.1 = 1 ∧ ∃ t, rt k = some (.array t)
  | .return_ => e.2.1 = 1 ∧ rt k = none
  | .invokevirtual i => e.2.1 = 3 ∧ j_cal yn bt rt mx own TW e.2.2.1 ∧ Cond.methodLink (own k) i (yn e.2.2.1) ∈ TW ∧ Cond.instanceMethod (yn e.2.2.1) ∈ TW ∧ Cond.selects (yn e.2.2.1).cls (yn e.2.2.1) (yn e.2.2.1) ∈ TW ∧ (∃ n, e.2.2.2.1 = n + 1 ∧ (parseMethodDescriptor (yn e.2.2.1).desc).map (fun d => d.parameters.length) = some n) ∧ ((rc e.2.2.1 = 99 ∧ (yn e.2.2.1).cls = "java/lang/String") ∨ (¬ rc e.2.2.1 = 99 ∧ ∃ r : vw_C, cl[rc e.2.2.1]? = some r ∧ r.1 = (yn e.2.2.1).cls))
  | .invokestatic i => e.2.1 = 3 ∧ ((e.2.2.1 = 1001 ∧ Cond.methodLink (own k) i arraycopyName ∈ TW ∧ Cond.native arraycopyName ∈ TW ∧ Cond.static arraycopyName ∈ TW ∧ Cond.initialized "java/lang/System" ∈ TW) ∨
      (¬ 1001 ≤ e.2.2.1 ∧ j_cal yn bt rt mx own TW e.2.2.1 ∧ (Cond.methodLink (own k) i (yn e.2.2.1) ∈ TW ∨ ∃ host, Cond.methodLinkNest (own k) i (yn e.2.2.1) host ∈ ks.2) ∧ Cond.static (yn e.2.2.1) ∈ TW ∧ (parseMethodDescriptor (yn e.2.2.1).desc).map (fun d => d.parameters.length) = some e.2.2.2.1))
  | .invokespecial i => e.2.1 = 3 ∧ ((e.2.2.1 = 1000 ∧ Cond.methodLink (own k) i Lib.objectInit ∈ TW ∧ Cond.instanceMethod Lib.objectInit ∈ TW ∧ Cond.code Lib.objectInit ⟨#[0xb1]⟩ 1 none ∈ TW) ∨
      (¬ e.2.2.1 = 1000 ∧ j_cal yn bt rt mx own TW e.2.2.1 ∧ Cond.methodLink (own k) i (yn e.2.2.1) ∈ TW ∧ Cond.instanceMethod (yn e.2.2.1) ∈ TW ∧ (yn e.2.2.1).name = "<init>" ∧ rt e.2.2.1 = none ∧ ∃ n, e.2.2.2.1 = n + 1 ∧ (parseMethodDescriptor (yn e.2.2.1).desc).map (fun d => d.parameters.length) = some n))
  | _ => e.2.1 = j_len e.1
def j_Pre (g : Nat → Value) (ad : Nat → Nat) (B : Nat) (D : va_G) (cA : Nat → ClassId) (cl : List vw_C) (zs : List (String × String × String × Value)) (ks : jK) (hp : List jc) (U : State) : Prop :=
  va_K D cl (j_tys cA) U ∧ j_St g B zs U U.heap ∧ j_Ks g ks U ∧ B ≤ U.heap.size ∧ j_H g ad B D cA cl U U.heap hp
def j_Qc (g : Nat → Value) (ad : Nat → Nat) (B : Nat) (D : va_G) (cA : Nat → ClassId) (cl : List vw_C) (v : Option Value) (hp : List jc) : Array Value → State → Outcome → State → Prop := fun _ st oc t =>
  oc = .returned (v.map (j_rv g)) ∧ j_H g ad B D cA cl t t.heap hp ∧ va_F (j_A B) st t
section JR
variable {g : Nat → Value} {ad : Nat → Nat} {B : Nat} {D : va_G} {cA : Nat → ClassId} {cl : List vw_C} {TW : List Cond} {zs : List (String × String × String × Value)} {ks : jK} {df : Nat → List Value}
variable {yn : Nat → MethodName} {bt : Nat → ByteArray} {rt : Nat → Option FieldType} {mx rc : Nat → Nat} {own : Nat → String} {F : Nat → Nat → Option jE}
theorem j_Nw_warm {x : Cond} {s U : State} (hW : s.WarmedH U.vm) (hx : j_isN x = true) (h : va_Nw x s) : va_Nw x U := by
  cases x with
  | arrayOver t =>
    cases t with
    | object C => exact va_AO.moved hW.alike h
    | _ => cases hx
  | _ => first | exact va_Nw.warmF hW h | exact va_Nw.warmM hW h | cases hx
theorem j_Nw_same {x : Cond} {s U : State} (hv : s.vm = U.vm) (hx : j_isN x = true) (h : va_Nw x s) : va_Nw x U := by
  cases x with
  | arrayOver t =>
    cases t with
    | object C => exact va_AO.moved (u := s) (U := U) (by rw [hv]; exact Vm.Alike.refl U.vm) h
    | _ => cases hx
  | _ => first | exact va_Nw.same rfl hv h | cases hx
theorem j_Ks.warm {s U : State} (hW : s.WarmedH U.vm) (h : j_Ks g ks s) : j_Ks g ks U := ⟨fun q hq => by
  obtain ⟨a, h1, h2⟩ := h.1 q hq
  exact ⟨a, h1, h2.warm hW⟩, fun x hx => ⟨(h.2 x hx).1, j_Nw_warm hW (h.2 x hx).1 (h.2 x hx).2⟩⟩
theorem j_Pre.blind {hp : List jc} {av : List Value} : FrameBlind (va_Pc av (j_Pre g ad B D cA cl zs ks hp)) := by
  intro a U fr mk q
  obtain ⟨q0, qK, qS, qs, qB, qH⟩ := q
  refine ⟨q0, va_K.moved (u := U) (U := U.calling fr mk a) (Vm.Alike.refl U.vm) qK, fun z hz => va_Z.moved (u := U) (U := U.calling fr mk a) (Vm.Alike.refl U.vm) (qS z hz), ⟨fun z hz => ?_, fun x hx => ⟨(qs.2 x hx).1, j_Nw_same (s := U) (U := U.calling fr mk a) rfl (qs.2 x hx).1 (qs.2 x hx).2⟩⟩, qB, j_H.moved (U := U) (V := U.calling fr mk a) (Vm.Alike.refl U.vm) qH⟩
  obtain ⟨x, h1, h2⟩ := qs.1 z hz
  exact ⟨x, h1, vk_R.same (u := U) (U := U.calling fr mk a) rfl h2⟩
theorem j_Pre.at {s U : State} {H : Heap} {locs : List Loc} {hp : List jc} (hK : va_K D cl (j_tys cA) s) (hSt : j_St g B zs s s.heap) (hKs : j_Ks g ks s) (hBs : B ≤ s.heap.size) (hH : j_H g ad B D cA cl s H hp) (hS : va_S (j_A B) s.heap H locs) (hU : U.heap = H) (hW : s.WarmedH U.vm) : j_Pre g ad B D cA cl zs ks hp U := by
  subst hU
  exact ⟨va_K.moved hW.alike hK, fun z hz => va_Z.moved hW.alike ((hSt z hz).kept hS.2.1), hKs.warm hW, Nat.le_trans hBs hS.1, hH.moved hW.alike⟩
theorem j_sl_len (hG : j_G g ad B) (as : List Value) : (lg_sl (as.map (j_rv g))).length = (lg_sl as).length := by
  induction as with
  | nil => rfl
  | cons v r ih =>
    unfold lg_sl at ih ⊢
    simp only [List.map_cons, List.flatMap_cons, List.length_append, ih, j_rv_cat hG]
    by_cases hv : v.category = 2
    · simp [hv]
    · simp [hv]
theorem j_args (hG : j_G g ad B) (as : List Value) : ∀ i, lv_args i (as.map (j_rv g)) = j_sl g (lv_args i as) := by
  induction as with
  | nil => intro i; rfl
  | cons v r ih =>
    intro i
    show (i, j_rv g v) :: lv_args (if (j_rv g v).category = 2 then i + 2 else i + 1) (r.map (j_rv g)) = (i, j_rv g v) :: j_sl g (lv_args (if v.category = 2 then i + 2 else i + 1) r)
    rw [ih, j_rv_cat hG]
theorem j_entry (hG : j_G g ad B) {as : List Value} {n : Nat} (h : (lg_sl as).length ≤ n) : lv_has ((lg_sl (as.map (j_rv g)) ++ List.replicate (n - (lg_sl (as.map (j_rv g))).length) Slot.unset).toArray) n (j_sl g (lv_args 0 as)) := by
  have h1 := lv_entry (as.map (j_rv g)) (n := n) (by rw [j_sl_len hG]; exact h)
  rw [j_args hG] at h1
  exact h1
/-- a call that has come back -/
theorem j_call {p : Program} {l : Launch} {e : Env} {R : Room} {s : State} {m : MethodId} {args : Array Value} {below : List Frame} {meth : Method} {c : Code} {H : Heap} {locs : List Loc} {cells slots mc ms : Nat} {Q : State → Prop} {pc : Nat} {ls : Array Slot} {st0 rest : List Value} {a : Array Value} {v : Option Value} {hp : List jc}
    (hr : va_Run p l e R s m args below meth c H locs cells slots mc ms (F0 m pc ls st0) rest (j_Qc g ad B D cA cl v hp a) (j_A B)) (hS : va_S (j_A B) s.heap H locs)
    (kk : ∀ (H1 : Heap) (locs1 : List Loc), j_H g ad B D cA cl s H1 hp → va_S (j_A B) s.heap H1 locs1 → W p l e R s m args below meth c H1 locs1 (cells + mc) (slots + ms) Q (F0 m (pc + 3) ls ((v.map (j_rv g)).toList ++ rest))) : W p l e R s m args below meth c H locs cells slots Q (F0 m pc ls st0) := by
  intro T hT X
  obtain ⟨v', st₀, t, T', L, h0, X', hL, e1, e2, ⟨hv, hH, hz, hk⟩, st⟩ := hr T hT X
  have hv' : v' = v.map (j_rv g) := by injection hv
  subst hv'
  rw [h0] at hz hk
  have hal : s.vm.Alike t.vm := by rw [← e2]; exact X'.warmed.alike
  obtain ⟨t2, a1, b1⟩ := kk T'.heap (locs ++ L) (by rw [e1]; exact hH.moved hal.symm)
    ⟨Nat.le_trans hS.1 (by rw [e1]; exact hz), fun q h1 h2 => by rw [e1, hk q (Nat.lt_of_lt_of_le h1 hS.1) h2]; exact hS.2.1 q h1 h2, fun q hq => by
      rcases List.mem_append.mp hq with h | h
      · exact hS.2.2 q h
      · exact hL q h⟩ T' rfl X'
  exact ⟨t2, st t2 a1, b1⟩
theorem j_toList (v : Option Value) (r : List Value) : (v.toList ++ r).map (j_rv g) = (v.map (j_rv g)).toList ++ r.map (j_rv g) := by
  cases v <;> rfl
theorem jrun_mono : ∀ (n k pc : Nat) (lv : jL) (st : List Value) (hp : List jc) (c sl fr lo : Nat) (r : jR), jrun F mx rc df n k pc lv st hp c sl fr lo = some r → c ≤ r.2.2.1 ∧ sl ≤ r.2.2.2 := by
  intro n
  induction n with
  | zero => intro k pc lv st hp c sl fr lo r h; cases h
  | succ n ih =>
    intro k pc lv st hp c sl fr lo r h
    rw [jrun_succ] at h
    unfold jbody at h
    have hcall : ∀ (b : Bool) (e : jE), (cond b (match jrun F mx rc df n e.2.2.1 0 (lv_args 0 (st.take e.2.2.2.1).reverse) [] hp 0 0 (fr - 1) (lo - (mx e.2.2.1 + 19)) with
      | some (v, hp', c1, s1) => jrun F mx rc df n k (pc + 3) lv (v.toList ++ st.drop e.2.2.2.1) hp' (c + c1) (sl + s1) fr lo
      | none => none) none) = some r → c ≤ r.2.2.1 ∧ sl ≤ r.2.2.2 := by
      intro b e h
      cases b with
      | false => cases h
      | true =>
        simp only [cond_true] at h
        split at h
        · rename_i v hp' c1 s1 _
          have := ih _ _ _ _ _ _ _ _ _ _ h
          exact ⟨Nat.le_trans (Nat.le_add_right _ _) this.1, Nat.le_trans (Nat.le_add_right _ _) this.2⟩
        · cases h
    dsimp only at h
    split at h
    · cases h
    · rename_i e he
      split at h
      · split at h
        · cases hb : j_fit e.2.2.2.2.2 (.int _) with
          | false => rw [hb] at h; cases h
          | true => rw [hb] at h; cases h; exact ⟨Nat.le_refl _, Nat.le_refl _⟩
        · cases h
      · split at h
        · cases h; exact ⟨Nat.le_refl _, Nat.le_refl _⟩
        · cases h
      · split at h
        · rename_i x
          cases hb : Nat.ble 9 x with
          | false => rw [hb] at h; cases h
          | true => rw [hb] at h; cases h; exact ⟨Nat.le_refl _, Nat.le_refl _⟩
        · cases h
      · split at h
        · cases h; exact ⟨Nat.le_refl _, Nat.le_refl _⟩
        · cases h
      · exact hcall _ e h
      · cases hb : Nat.ble 1001 e.2.2.1 with
        | true =>
          rw [hb] at h
          simp only [cond_true] at h
          cases hb2 : Nat.ble 1 fr && Nat.ble ((st.map fun v => v.category).sum + 40) lo with
          | false => rw [hb2] at h; cases h
          | true =>
            rw [hb2] at h
            simp only [cond_true] at h
            split at h
            · exact ih _ _ _ _ _ _ _ _ _ _ h
            · cases h
        | false =>
          rw [hb] at h
          simp only [cond_false] at h
          exact hcall _ e h
      · cases hb : Nat.beq e.2.2.1 1000 with
        | true =>
          rw [hb] at h
          simp only [cond_true] at h
          split at h
          · rename_i a r1
            cases hb2 : Nat.ble 9 a && Nat.ble 1 fr && Nat.ble ((r1.map fun v => v.category).sum + 12) lo with
            | false => rw [hb2] at h; cases h
            | true =>
              rw [hb2] at h
              exact ih _ _ _ _ _ _ _ _ _ _ h
          · cases h
        | false =>
          rw [hb] at h
          simp only [cond_false] at h
          have h2 : ∀ (b : Bool) (x : Option jR), cond b x none = some r → x = some r := fun b x hx => by cases b <;> first | exact hx | cases hx
          exact hcall _ e (h2 _ _ h)
      · split at h
        · have := ih _ _ _ _ _ _ _ _ _ _ h
          exact ⟨Nat.le_trans (Nat.le_add_right _ _) this.1, Nat.le_trans (Nat.le_add_right _ _) this.2⟩
        · cases h
/-- more fuel, the same answer -/
theorem jbody_up {ih1 ih2 : Nat → Nat → jL → List Value → List jc → Nat → Nat → Nat → Nat → Option jR} (H : ∀ (k pc : Nat) (lv : jL) (st : List Value) (hp : List jc) (c sl fr lo : Nat) (r : jR), ih1 k pc lv st hp c sl fr lo = some r → ih2 k pc lv st hp c sl fr lo = some r)
    {k pc : Nat} {lv : jL} {st : List Value} {hp : List jc} {c sl fr lo : Nat} {r : jR} (h : jbody F mx rc df ih1 k pc lv st hp c sl fr lo = some r) : jbody F mx rc df ih2 k pc lv st hp c sl fr lo = some r := by
  unfold jbody at h ⊢
  have hcall : ∀ (b : Bool) (e : jE), (cond b (match ih1 e.2.2.1 0 (lv_args 0 (st.take e.2.2.2.1).reverse) [] hp 0 0 (fr - 1) (lo - (mx e.2.2.1 + 19)) with
      | some (v, hp', c1, s1) => ih1 k (pc + 3) lv (v.toList ++ st.drop e.2.2.2.1) hp' (c + c1) (sl + s1) fr lo
      | none => none) none) = some r → (cond b (match ih2 e.2.2.1 0 (lv_args 0 (st.take e.2.2.2.1).reverse) [] hp 0 0 (fr - 1) (lo - (mx e.2.2.1 + 19)) with
      | some (v, hp', c1, s1) => ih2 k (pc + 3) lv (v.toList ++ st.drop e.2.2.2.1) hp' (c + c1) (sl + s1) fr lo
      | none => none) none) = some r := by
    intro b e h
    cases b with
    | false => cases h
    | true =>
      simp only [cond_true] at h ⊢
      split at h
      · rename_i v hp' c1 s1 h1
        rw [H _ _ _ _ _ _ _ _ _ _ h1]
        exact H _ _ _ _ _ _ _ _ _ _ h
      · cases h
  cases hF : F k pc with
  | none => rw [hF] at h; cases h
  | some e =>
    rw [hF] at h
    obtain ⟨ins, len, l1, l2, val, ty⟩ := e
    cases ins with
    | ireturn => exact h
    | lreturn => exact h
    | areturn => exact h
    | return_ => exact h
    | invokevirtual i =>
      dsimp only at h ⊢
      exact hcall _ (.invokevirtual i, len, l1, l2, val, ty) h
    | invokestatic i =>
      dsimp only at h ⊢
      cases hb : Nat.ble 1001 l1 with
      | true =>
        rw [hb] at h
        simp only [cond_true] at h ⊢
        cases hb2 : Nat.ble 1 fr && Nat.ble ((st.map fun v => v.category).sum + 40) lo with
        | false => rw [hb2] at h; cases h
        | true =>
          rw [hb2] at h
          simp only [cond_true] at h ⊢
          split at h
          · exact H _ _ _ _ _ _ _ _ _ _ h
          · cases h
      | false =>
        rw [hb] at h
        simp only [cond_false] at h ⊢
        exact hcall _ (.invokestatic i, len, l1, l2, val, ty) h
    | invokespecial i =>
      dsimp only at h ⊢
      cases hb : Nat.beq l1 1000 with
      | true =>
        rw [hb] at h
        simp only [cond_true] at h ⊢
        split at h
        · rename_i a r1
          cases hb2 : Nat.ble 9 a && Nat.ble 1 fr && Nat.ble ((r1.map fun v => v.category).sum + 12) lo with
          | false => rw [hb2] at h; cases h
          | true =>
            rw [hb2] at h
            exact H _ _ _ _ _ _ _ _ _ _ h
        · cases h
      | false =>
        rw [hb] at h
        simp only [cond_false] at h ⊢
        cases hb2 : j_hd9 (st.drop (l2 - 1)) with
        | false => rw [hb2] at h; cases h
        | true =>
          rw [hb2] at h
          exact hcall _ (.invokespecial i, len, l1, l2, val, ty) h
    | _ =>
      dsimp only at h ⊢
      revert h
      generalize jstep df (mx k) pc _ lv st hp = X
      intro h
      cases X with
      | none => cases h
      | some x =>
        obtain ⟨a1, a2, a3, a4, a5, a6⟩ := x
        exact H _ _ _ _ _ _ _ _ _ _ h
theorem jrun_up : ∀ (n m k pc : Nat) (lv : jL) (st : List Value) (hp : List jc) (c sl fr lo : Nat) (r : jR), n ≤ m → jrun F mx rc df n k pc lv st hp c sl fr lo = some r → jrun F mx rc df m k pc lv st hp c sl fr lo = some r := by
  intro n
  induction n with
  | zero => intro m k pc lv st hp c sl fr lo r _ h; cases h
  | succ n ih =>
    intro m k pc lv st hp c sl fr lo r hm h
    cases m with
    | zero => exact absurd hm (Nat.not_succ_le_zero n)
    | succ m =>
      rw [jrun_succ] at h ⊢
      exact jbody_up (fun k pc lv st hp c sl fr lo r h => ih m k pc lv st hp c sl fr lo r (Nat.le_of_succ_le_succ hm) h) h
end JR
end
section
section JT
variable {g : Nat → Value} {ad : Nat → Nat} {B : Nat} {D : va_G} {cA : Nat → ClassId} {cl : List vw_C} {TW : List Cond} {zs : List (String × String × String × Value)} {ks : jK} {df : Nat → List Value}
variable {yn : Nat → MethodName} {bt : Nat → ByteArray} {rt : Nat → Option FieldType} {mx rc : Nat → Nat} {own : Nat → String} {F : Nat → Nat → Option jE}
set_option maxHeartbeats 4000000 in
/-- a step that is no call and no end -/
theorem j_step_all {p : Program} {l : Launch} {e : Env} {R : Room} {s : State} {m : MethodId} {args : Array Value} {below : List Frame} {meth : Method} {c : Code} {H : Heap} {locs : List Loc} {cells slots : Nat} {Q : State → Prop} {k pc pc' dc ds : Nat} {lv lv' : jL} {st st' : List Value} {hp hp' : List jc} {ls : Array Slot} {en : jE}
    (hC : j_Cx g ad B D cA cl TW zs ks (own k) (yn k).name (bt k) (mx k) p s m args meth c) (hkd : j_kd cl TW df ∧ cl[99]? = none ∧ ∀ rr : vw_C, cl[4]? = some rr → rr.1 = "HundredWords$Row") (hok : j_ok yn bt rt mx rc own cl TW zs ks k pc en)
    (h : jstep df (mx k) pc en lv st hp = some (pc', lv', st', hp', dc, ds)) (hl : lv_has ls (mx k) (j_sl g lv)) (hH : j_H g ad B D cA cl s H hp) (hS : va_S (j_A B) s.heap H locs) (hc : cells + dc ≤ R.cells) (hs : slots + ds ≤ R.slots)
    (kk : ∀ (H' : Heap) (locs' : List Loc) (ls' : Array Slot), lv_has ls' (mx k) (j_sl g lv') → j_H g ad B D cA cl s H' hp' → va_S (j_A B) s.heap H' locs' → W p l e R s m args below meth c H' locs' (cells + dc) (slots + ds) Q (F0 m pc' ls' (st'.map (j_rv g)))) : W p l e R s m args below meth c H locs cells slots Q (F0 m pc ls (st.map (j_rv g))) := by
  obtain ⟨ins, len, l1, l2, val, ty⟩ := en
  obtain ⟨hd, hlk, hlen⟩ := hok
  cases ins with
  | iconst _ => exact j_s_iconst hC hkd hd hlen hlk h hl hH hS hc hs kk
  | bipush _ => exact j_s_bipush hC hkd hd hlen hlk h hl hH hS hc hs kk
  | sipush _ => exact j_s_sipush hC hkd hd hlen hlk h hl hH hS hc hs kk
  | lconst _ => exact j_s_lconst hC hkd hd hlen hlk h hl hH hS hc hs kk
  | iload_n _ => exact j_s_iload_n hC hkd hd hlen hlk h hl hH hS hc hs kk
  | iload _ => exact j_s_iload hC hkd hd hlen hlk h hl hH hS hc hs kk
  | lload_n _ => exact j_s_lload_n hC hkd hd hlen hlk h hl hH hS hc hs kk
  | lload _ => exact j_s_lload hC hkd hd hlen hlk h hl hH hS hc hs kk
  | aload_n _ => exact j_s_aload_n hC hkd hd hlen hlk h hl hH hS hc hs kk
  | aload _ => exact j_s_aload hC hkd hd hlen hlk h hl hH hS hc hs kk
  | istore_n _ => exact j_s_istore_n hC hkd hd hlen hlk h hl hH hS hc hs kk
  | istore _ => exact j_s_istore hC hkd hd hlen hlk h hl hH hS hc hs kk
  | astore_n _ => exact j_s_astore_n hC hkd hd hlen hlk h hl hH hS hc hs kk
  | astore _ => exact j_s_astore hC hkd hd hlen hlk h hl hH hS hc hs kk
  | lstore_n _ => exact j_s_lstore_n hC hkd hd hlen hlk h hl hH hS hc hs kk
  | lstore _ => exact j_s_lstore hC hkd hd hlen hlk h hl hH hS hc hs kk
  | iinc _ _ => exact j_s_iinc hC hkd hd hlen hlk h hl hH hS hc hs kk
  | iadd => exact j_s_iadd hC hkd hd hlen hlk h hl hH hS hc hs kk
  | isub => exact j_s_isub hC hkd hd hlen hlk h hl hH hS hc hs kk
  | imul => exact j_s_imul hC hkd hd hlen hlk h hl hH hS hc hs kk
  | iand => exact j_s_iand hC hkd hd hlen hlk h hl hH hS hc hs kk
  | ior => exact j_s_ior hC hkd hd hlen hlk h hl hH hS hc hs kk
  | ishl => exact j_s_ishl hC hkd hd hlen hlk h hl hH hS hc hs kk
  | ishr => exact j_s_ishr hC hkd hd hlen hlk h hl hH hS hc hs kk
  | ladd => exact j_s_ladd hC hkd hd hlen hlk h hl hH hS hc hs kk
  | lsub => exact j_s_lsub hC hkd hd hlen hlk h hl hH hS hc hs kk
  | lmul => exact j_s_lmul hC hkd hd hlen hlk h hl hH hS hc hs kk
  | land => exact j_s_land hC hkd hd hlen hlk h hl hH hS hc hs kk
  | lor => exact j_s_lor hC hkd hd hlen hlk h hl hH hS hc hs kk
  | lxor => exact j_s_lxor hC hkd hd hlen hlk h hl hH hS hc hs kk
  | iushr => exact j_s_iushr hC hkd hd hlen hlk h hl hH hS hc hs kk
  | lshl => exact j_s_lshl hC hkd hd hlen hlk h hl hH hS hc hs kk
  | lshr => exact j_s_lshr hC hkd hd hlen hlk h hl hH hS hc hs kk
  | lushr => exact j_s_lushr hC hkd hd hlen hlk h hl hH hS hc hs kk
  | idiv => exact j_s_idiv hC hkd hd hlen hlk h hl hH hS hc hs kk
  | irem => exact j_s_irem hC hkd hd hlen hlk h hl hH hS hc hs kk
  | ldiv => exact j_s_ldiv hC hkd hd hlen hlk h hl hH hS hc hs kk
  | lrem => exact j_s_lrem hC hkd hd hlen hlk h hl hH hS hc hs kk
  | lcmp => exact j_s_lcmp hC hkd hd hlen hlk h hl hH hS hc hs kk
  | ineg => exact j_s_ineg hC hkd hd hlen hlk h hl hH hS hc hs kk
  | lneg => exact j_s_lneg hC hkd hd hlen hlk h hl hH hS hc hs kk
  | i2l => exact j_s_i2l hC hkd hd hlen hlk h hl hH hS hc hs kk
  | l2i => exact j_s_l2i hC hkd hd hlen hlk h hl hH hS hc hs kk
  | i2c => exact j_s_i2c hC hkd hd hlen hlk h hl hH hS hc hs kk
  | dup => exact j_s_dup hC hkd hd hlen hlk h hl hH hS hc hs kk
  | pop => exact j_s_pop hC hkd hd hlen hlk h hl hH hS hc hs kk
  | dup2 => exact j_s_dup2 hC hkd hd hlen hlk h hl hH hS hc hs kk
  | ifCond _ _ => exact j_s_ifCond hC hkd hd hlen hlk h hl hH hS hc hs kk
  | if_icmp _ _ => exact j_s_if_icmp hC hkd hd hlen hlk h hl hH hS hc hs kk
  | goto _ => exact j_s_goto hC hkd hd hlen hlk h hl hH hS hc hs kk
  | tableswitch _ _ _ _ => exact j_s_tableswitch hC hkd hd hlk h hl hH hS hc hs kk
  | lookupswitch _ _ => exact j_s_lookupswitch hC hkd hd hlk h hl hH hS hc hs kk
  | getfield _ => exact j_s_getfield hC hkd hd hlen hlk h hl hH hS hc hs kk
  | putfield _ => exact j_s_putfield hC hkd hd hlen hlk h hl hH hS hc hs kk
  | getstatic _ => exact j_s_getstatic hC hkd hd hlen hlk h hl hH hS hc hs kk
  | ldc2_w _ => exact j_s_ldc2_w hC hkd hd hlen hlk h hl hH hS hc hs kk
  | ldc _ => exact j_s_ldc hC hkd hd hlen hlk h hl hH hS hc hs kk
  | arraylength => exact j_s_arraylength hC hkd hd hlen hlk h hl hH hS hc hs kk
  | iaload => exact j_s_iaload hC hkd hd hlen hlk h hl hH hS hc hs kk
  | laload => exact j_s_laload hC hkd hd hlen hlk h hl hH hS hc hs kk
  | caload => exact j_s_caload hC hkd hd hlen hlk h hl hH hS hc hs kk
  | aaload => exact j_s_aaload hC hkd hd hlen hlk h hl hH hS hc hs kk
  | baload => exact j_s_baload hC hkd hd hlen hlk h hl hH hS hc hs kk
  | iastore => exact j_s_iastore hC hkd hd hlen hlk h hl hH hS hc hs kk
  | lastore => exact j_s_lastore hC hkd hd hlen hlk h hl hH hS hc hs kk
  | castore => exact j_s_castore hC hkd hd hlen hlk h hl hH hS hc hs kk
  | bastore => exact j_s_bastore hC hkd hd hlen hlk h hl hH hS hc hs kk
  | aastore => exact j_s_aastore hC hkd hd hlen hlk h hl hH hS hc hs kk
  | new _ => exact j_s_new hC hkd hd hlen hlk h hl hH hS hc hs kk
  | newarray _ => exact j_s_newarray hC hkd hd hlen hlk h hl hH hS hc hs kk
  | anewarray _ => exact j_s_anewarray hC hkd hd hlen hlk h hl hH hS hc hs kk
  | _ =>
    have h : (none : Option jX) = some (pc', lv', st', hp', dc, ds) := h
    cases h
set_option maxHeartbeats 4000000 in
/-- a method, by its run, as a contract: 'ih': runs that are shorter -/
theorem j_met {l : Launch} (hG : j_G g ad B) (n : Nat)
    (ih : ∀ (p : Program) (e : Env) (R : Room) (s : State) (m : MethodId) (args : Array Value) (below : List Frame) (meth : Method) (c : Code) (H : Heap) (locs : List Loc) (k pc : Nat) (lv : jL) (st : List Value) (hp : List jc) (cells slots fr lo : Nat) (v : Option Value) (hp' : List jc) (c' s' : Nat) (ls : Array Slot),
      jrun F mx rc df n k pc lv st hp cells slots fr lo = some (v, hp', c', s') → j_Cx g ad B D cA cl TW zs ks (own k) (yn k).name (bt k) (mx k) p s m args meth c → meth.sig.returnType = rt k → lv_has ls (mx k) (j_sl g lv) → j_H g ad B D cA cl s H hp → va_S (j_A B) s.heap H locs → c' ≤ R.cells → s' ≤ R.slots → fr ≤ R.frames → lo ≤ R.locals →
      W p l e R s m args below meth c H locs cells slots (MQ below (j_Qc g ad B D cA cl v hp') args s c' s' (j_A B)) (F0 m pc ls (st.map (j_rv g))))
    {j fr lo c1 s1 : Nat} {as : List Value} {hp hp1 : List jc} {v1 : Option Value} (hrun : jrun F mx rc df n j 0 (lv_args 0 as) [] hp 0 0 fr lo = some (v1, hp1, c1, s1)) (hlen : (lg_sl as).length ≤ mx j) (hcal : j_cal yn bt rt mx own TW j) :
    Met l (yn j) (Cond.code (yn j) (bt j) (mx j) (rt j) :: TW) { frames := fr, cells := c1, slots := s1, locals := lo } (va_Pc (as.map (j_rv g)) (j_Pre g ad B D cA cl zs ks hp)) (j_Qc g ad B D cA cl v1 hp1) c1 s1 (j_A B) := by
  refine Met.ofW (cc := bt j) (maxL := mx j) (ret := rt j) hcal.2.2.1 rfl ?_
  intro p e s m args below meth c s₁ B0 hml hv
  obtain ⟨rfl, hK, hSt, hKs, hBs, hH⟩ := hv
  have hts := atoms_spec (ws := Cond.code (yn j) (bt j) (mx j) (rt j) :: TW) B0.pre
  have hown : s.vm.findClass (own j) = some m.cls := by rw [hcal.2.2.2.2]; exact findClass_of_methodNamed B0.named
  rw [lg_entry_eq]
  exact ih p e _ s m _ below meth c s.heap [] j 0 (lv_args 0 as) [] hp 0 0 fr lo v1 hp1 c1 s1 _ hrun ⟨hG, B0.exec, B0.bytes, hml, hown, fun x hx => hts x (List.mem_cons_of_mem _ hx), B0.notSynchronized, (fun z => (name_of_methodNamed B0.named B0.method).1.trans z), hK, hSt, hKs, hBs⟩ B0.returns (j_entry hG hlen) hH va_S.rf (Nat.le_refl _) (Nat.le_refl _) (Nat.le_refl _) (Nat.le_refl _)
theorem j_split {n : Nat} {st : List Value} (h : n ≤ st.length) : st.map (j_rv g) = ((st.take n).reverse.map (j_rv g)).reverse ++ (st.drop n).map (j_rv g) := by
  rw [← List.map_reverse, List.reverse_reverse, ← List.map_append, List.take_append_drop]
theorem j_param (d : Nat) {y : MethodName} (h : (parseMethodDescriptor y.desc).map (fun d => d.parameters.length) = some d) : ∀ sig, parseMethodDescriptor y.desc = some sig → d = sig.parameters.length := by
  intro sig hs
  rw [hs] at h
  exact (Option.some.inj h).symm
theorem j_take {n : Nat} {st : List Value} (h : n ≤ st.length) : (st.take n).reverse.length = n := by
  rw [List.length_reverse, List.length_take]
  omega
theorem j_head {n : Nat} {st : List Value} (h : n + 1 ≤ st.length) {a : Nat} {r : List Value} (hd : st.drop n = .ref a :: r) : (st.take (n + 1)).reverse = .ref a :: (st.take n).reverse := by
  have h1 : st[n]? = some (.ref a) := by
    have := List.getElem?_drop (xs := st) (i := n) (j := 0)
    rw [hd] at this
    simpa using this.symm
  rw [List.take_succ, h1]
  simp
theorem j_cpl_len (l0 l1 : List Value) {sp dp n : Nat} (h0 : sp + n ≤ l0.length) (h1 : dp + n ≤ l1.length) : (j_cpl l0 l1 sp dp n).length = l1.length := by
  unfold j_cpl
  simp only [List.length_append, List.length_take, List.length_drop]
  omega
theorem j_cpl_at (l0 l1 : List Value) {sp dp n : Nat} (h0 : sp + n ≤ l0.length) (h1 : dp + n ≤ l1.length) (k : Nat) : (j_cpl l0 l1 sp dp n)[k]? = if dp ≤ k ∧ k < dp + n then l0[sp + (k - dp)]? else l1[k]? := by
  unfold j_cpl
  have e1 : (l1.take dp).length = dp := by rw [List.length_take]; omega
  have e2 : ((l0.drop sp).take n).length = n := by rw [List.length_take, List.length_drop]; omega
  by_cases ha : k < dp
  · rw [List.getElem?_append_left (by omega), if_neg (by omega), List.getElem?_take, if_pos ha]
  · rw [List.getElem?_append_right (by omega), e1]
    by_cases hb : k - dp < n
    · rw [List.getElem?_append_left (by omega), if_pos (by omega), List.getElem?_take, if_pos hb, List.getElem?_drop]
    · rw [List.getElem?_append_right (by omega), e2, if_neg (by omega), List.getElem?_drop, show dp + n + (k - dp - n) = k by omega]
theorem j_copied (g : Nat → Value) (c0 c1 : ClassId) (l0 l1 : List Value) {sp dp n : Int32} (h0 : sp.toNatClampNeg + n.toNatClampNeg ≤ l0.length) (h1 : dp.toNatClampNeg + n.toNatClampNeg ≤ l1.length) :
    copied (arrV c0 l0.length (fun j => j_rv g (l0.getD j .null))) (arrV c1 l1.length (fun j => j_rv g (l1.getD j .null))) sp dp n = arrV c1 (j_cpl l0 l1 sp.toNatClampNeg dp.toNatClampNeg n.toNatClampNeg).length (fun j => j_rv g ((j_cpl l0 l1 sp.toNatClampNeg dp.toNatClampNeg n.toNatClampNeg).getD j .null)) := by
  have e := va_copied (j_rv g) c0 c1 (n0 := l0.length) (n1 := l1.length) (sp := sp.toNatClampNeg) (dp := dp.toNatClampNeg) (n := n.toNatClampNeg) (fun j => l0.getD j .null) (fun j => l1.getD j .null) h0
  rw [j_cpl_len l0 l1 h0 h1]
  refine Eq.trans e ?_
  congr 1
  funext j
  unfold va_cpy
  try dsimp only
  rw [List.getD_eq_getElem?_getD (l := j_cpl _ _ _ _ _), j_cpl_at l0 l1 h0 h1]
  by_cases hj : dp.toNatClampNeg ≤ j ∧ j < dp.toNatClampNeg + n.toNatClampNeg
  · rw [if_pos hj, if_pos hj, List.getD_eq_getElem?_getD]
  · rw [if_neg hj, if_neg hj, List.getD_eq_getElem?_getD]
set_option maxHeartbeats 4000000 in
/-- System.arraycopy between rows of ints -/
theorem j_s_copy {p : Program} {l : Launch} {e : Env} {R : Room} {s : State} {m : MethodId} {args : Array Value} {below : List Frame} {meth : Method} {c : Code} {H : Heap} {locs : List Loc} {cells slots : Nat} {Q : State → Prop} {k pc i : Nat} {st st' : List Value} {hp hp' : List jc} {ls : Array Slot}
    (hC : j_Cx g ad B D cA cl TW zs ks (own k) (yn k).name (bt k) (mx k) p s m args meth c) (hd : decode (bt k) pc = .ok (.invokestatic i, 3)) (h : j_cpy st hp = some (st', hp'))
    (hlink : Cond.methodLink (own k) i arraycopyName ∈ TW) (hnat : Cond.native arraycopyName ∈ TW) (hstat : Cond.static arraycopyName ∈ TW) (hini : Cond.initialized "java/lang/System" ∈ TW)
    (hf : 1 ≤ R.frames) (hlo : (st.map fun v => v.category).sum + 40 ≤ R.locals) (hls : ls.size = mx k) (hH : j_H g ad B D cA cl s H hp) (hS : va_S (j_A B) s.heap H locs)
    (kk : ∀ (H' : Heap) (locs' : List Loc), j_H g ad B D cA cl s H' hp' → va_S (j_A B) s.heap H' locs' → W p l e R s m args below meth c H' locs' cells slots Q (F0 m (pc + 3) ls (st'.map (j_rv g)))) : W p l e R s m args below meth c H locs cells slots Q (F0 m pc ls (st.map (j_rv g))) := by
  obtain ⟨hG, hx, hb, hml, hown, hts, hlocks, hname, hK, hSt, hKs, hBs⟩ := hC
  have nn : ∀ z : Int32, ¬ z < 0 → z.toInt = (z.toNatClampNeg : Int) := by
    intro z hz
    have hz0 : (0 : Int) ≤ z.toInt := by
      have := Int32.not_lt.mp hz
      simpa using Int32.le_iff_toInt_le.mp this
    show z.toInt = ((z.toInt.toNat : Nat) : Int)
    omega
  unfold j_cpy at h
  split at h
  · rename_i n dp a sp a0 r
    split at h
    · rename_i l0 hl0
      split at h
      · rename_i l1 hl1
        split at h
        · cases h
        · rename_i h1
          split at h
          · cases h
          · rename_i h2
            split at h
            · cases h
            · rename_i h3
              generalize hbe : (Nat.ble 9 a0 && Nat.ble 9 a && Nat.ble (sp.toNatClampNeg + n.toNatClampNeg) l0.length && Nat.ble (dp.toNatClampNeg + n.toNatClampNeg) l1.length && ((l0.drop sp.toNatClampNeg).take n.toNatClampNeg).all j_isi) = bb at h
              cases bb with
              | false => cases h
              | true =>
                simp only [cond_true] at h
                cases h
                simp only [Bool.and_eq_true] at hbe
                obtain ⟨⟨⟨⟨b1, b2⟩, b3⟩, b4⟩, b5⟩ := hbe
                have b1 := Nat.le_of_ble_eq_true b1
                have b2 := Nat.le_of_ble_eq_true b2
                have b3 := Nat.le_of_ble_eq_true b3
                have b4 := Nat.le_of_ble_eq_true b4
                obtain ⟨t0, g1, g2⟩ := j_at_some hl0
                have e0 : t0 = 0 := by simpa using g2
                subst e0
                obtain ⟨t1, g3, g4⟩ := j_at_some hl1
                have e1 : t1 = 0 := by simpa using g4
                subst e1
                have c0 := hH.2.2.2 a0 _ g1
                unfold j_in at c0
                rw [if_neg (by omega)] at c0
                have q0 := (c0.1 rfl).2
                have c1 := hH.2.2.2 a _ g3
                unfold j_in at c1
                rw [if_neg (by omega)] at c1
                have q1 := (c1.1 rfl).2
                have hlo2 : (st'.map fun v => v.category).sum + 40 ≤ R.locals := by
                  simp only [List.map_cons, List.sum_cons] at hlo
                  omega
                show W p l e R s m args below meth c H locs _ _ Q (F0 m pc ls (.int n :: .int dp :: g a :: .int sp :: g a0 :: st'.map (j_rv g)))
                rw [hG.ref b2, hG.ref b1]
                intro T hT X
                obtain ⟨-, k0, hk0, cm0, hkk0⟩ := (hK.2 0 _ (j_tys_at cA (by decide))).1 l0.length (fun j => j_rv g (l0.getD j .null))
                obtain ⟨-, k1, hk1, cm1, hkk1⟩ := (hK.2 0 _ (j_tys_at cA (by decide))).1 l1.length (fun j => j_rv g (l1.getD j .null))
                obtain ⟨vm', X', step⟩ := X.arraycopy hx hown (hts _ hlink) (hts _ hnat) (hts _ hstat) (hts _ hini) (src := ad a0) (dst := ad a) (cs := arrV (cA 0) l0.length (fun j => j_rv g (l0.getD j .null))) (cd := arrV (cA 0) l1.length (fun j => j_rv g (l1.getD j .null))) (srcPos := sp) (destPos := dp) (n := n) (by rw [hT]; exact q0) (by rw [hT]; exact q1)
                  (fun _ h => by cases h) (fun _ h => by cases h) (fun h => by cases h) (fun h => by cases h) hk0 hk1 hkk0 hkk1 (by simp [j_ty, refKind]) h1 h2 h3
                  (by rw [nn sp h1, nn n h3, arrV_size]; omega)
                  (by rw [nn dp h2, nn n h3, arrV_size]; omega)
                  (fun vm₁ _ i hi => by
                    have hlt : sp.toNatClampNeg + i < l0.length := by omega
                    have e : (arrV (cA 0) l0.length (fun j => j_rv g (l0.getD j .null))).slots.getD (sp.toNatClampNeg + i) .null = j_rv g (l0.getD (sp.toNatClampNeg + i) .null) := by
                      rw [Array.getD_eq_getD_getElem?, arrV_read _ _ hlt]
                      rfl
                    have hm : l0[sp.toNatClampNeg + i] ∈ (l0.drop sp.toNatClampNeg).take n.toNatClampNeg := List.mem_of_getElem? (i := i) (by rw [List.getElem?_take, if_pos hi, List.getElem?_drop, List.getElem?_eq_getElem hlt])
                    have hq := List.all_eq_true.mp b5 _ hm
                    have e2 : l0.getD (sp.toNatClampNeg + i) .null = l0[sp.toNatClampNeg + i] := by
                      rw [List.getD_eq_getElem?_getD, List.getElem?_eq_getElem hlt]
                      rfl
                    rw [e, e2]
                    generalize l0[sp.toNatClampNeg + i] = z at hq
                    cases z <;> first | (cases hq; done) | exact ⟨rfl, trivial⟩)
                  (g := F0 m pc ls (.int n :: .int dp :: .ref (ad a) :: .int sp :: .ref (ad a0) :: st'.map (j_rv g))) rfl (hls.trans hml.symm) (rest := st'.map (j_rv g)) rfl (by rw [hb]; exact hd) hf (by show 2 * 0 + _ + _ ≤ _; rw [j_cats hG, show nativeFrameWords "java/lang/System" "arraycopy" 5 = 7 from by decide]; omega)
                rw [j_copied g (cA 0) (cA 0) l0 l1 b3 b4] at X' step
                have hl := (Array.getElem?_eq_some_iff.mp q1).1
                have hheap : ((T.setVm vm').setCell (ad a) (arrV (cA 0) (j_cpl l0 l1 sp.toNatClampNeg dp.toNatClampNeg n.toNatClampNeg).length (fun j => j_rv g ((j_cpl l0 l1 sp.toNatClampNeg dp.toNatClampNeg n.toNatClampNeg).getD j .null)))).heap = H.setIfInBounds (ad a) (arrV (cA 0) (j_cpl l0 l1 sp.toNatClampNeg dp.toNatClampNeg n.toNatClampNeg).length (fun j => j_rv g ((j_cpl l0 l1 sp.toNatClampNeg dp.toNatClampNeg n.toNatClampNeg).getD j .null))) := by rw [← hT]; rfl
                have oq : ∀ q : Nat, q ≠ ad a → (H.setIfInBounds (ad a) (arrV (cA 0) (j_cpl l0 l1 sp.toNatClampNeg dp.toNatClampNeg n.toNatClampNeg).length (fun j => j_rv g ((j_cpl l0 l1 sp.toNatClampNeg dp.toNatClampNeg n.toNatClampNeg).getD j .null))))[q]? = H[q]? := fun q hq => by simp [Array.getElem?_setIfInBounds, Ne.symm hq]
                have hBa : B ≤ ad a := by rw [hG.2.2.1 a b2]; omega
                obtain ⟨t, a1, b1'⟩ := kk _ _ (hH.put hG g3 b2 (by simp) oq (by
                    unfold j_in
                    rw [if_neg (by omega)]
                    exact ⟨fun _ => ⟨by show (0 : Nat) < 6; decide, by simp [Array.getElem?_setIfInBounds, hl]⟩, fun e => by cases e⟩))
                  ⟨by simp; exact hS.1, fun q g1 g2 => by
                    rw [oq q (fun e => g2 (by rw [e]; exact hBa))]
                    exact hS.2.1 q g1 g2, fun q hq => by
                    rcases List.mem_append.mp hq with h | h
                    · exact hS.2.2 q h
                    · obtain ⟨z, -, hz⟩ := List.mem_map.mp h
                      rw [← hz]
                      exact hBa⟩ _ hheap X'
                exact ⟨t, step t a1, b1'⟩
      · cases h
    · cases h
  · cases h
set_option maxHeartbeats 8000000 in
theorem j_run_ok {l : Launch} (hG : j_G g ad B) (hF : ∀ k pc en, F k pc = some en → j_ok yn bt rt mx rc own cl TW zs ks k pc en) (hkd : j_kd cl TW df ∧ cl[99]? = none ∧ ∀ rr : vw_C, cl[4]? = some rr → rr.1 = "HundredWords$Row") (hgood : ∀ x ∈ TW, (x.onTables && x.keeps) = true ∨ ∃ ty, x = .arrayClass ty) :
    ∀ (n : Nat) (p : Program) (e : Env) (R : Room) (s : State) (m : MethodId) (args : Array Value) (below : List Frame) (meth : Method) (c : Code) (H : Heap) (locs : List Loc) (k pc : Nat) (lv : jL) (st : List Value) (hp : List jc) (cells slots fr lo : Nat) (v : Option Value) (hp' : List jc) (c' s' : Nat) (ls : Array Slot),
      jrun F mx rc df n k pc lv st hp cells slots fr lo = some (v, hp', c', s') → j_Cx g ad B D cA cl TW zs ks (own k) (yn k).name (bt k) (mx k) p s m args meth c → meth.sig.returnType = rt k → lv_has ls (mx k) (j_sl g lv) → j_H g ad B D cA cl s H hp → va_S (j_A B) s.heap H locs → c' ≤ R.cells → s' ≤ R.slots → fr ≤ R.frames → lo ≤ R.locals →
      W p l e R s m args below meth c H locs cells slots (MQ below (j_Qc g ad B D cA cl v hp') args s c' s' (j_A B)) (F0 m pc ls (st.map (j_rv g))) := by
  intro n
  induction n with
  | zero => intro p e R s m args below meth c H locs k pc lv st hp cells slots fr lo v hp' c' s' ls h; cases h
  | succ n ih =>
    intro p e R s m args below meth c H locs k pc lv st hp cells slots fr lo v hp' c' s' ls h hC hret hl hH hS hRc hRs hRf hRl
    have h0 := h
    rw [jrun_succ] at h
    unfold jbody at h
    dsimp only at h
    obtain ⟨-, hx, hb, hml, hown, hts, hlocks, hname, hK, hSt, hKs, hBs⟩ := id hC
    cases hen : F k pc with
    | none => rw [hen] at h; cases h
    | some en =>
      rw [hen] at h
      have hok := hF k pc en hen
      obtain ⟨ins, len, l1, l2, val, ty⟩ := en
      have word : ∀ x ∈ Cond.code (yn l1) (bt l1) (mx l1) (rt l1) :: TW, Cond.code (yn l1) (bt l1) (mx l1) (rt l1) ∈ TW → x ∈ TW := fun x hx hc => by
        rcases List.mem_cons.mp hx with e1 | e1
        · rw [e1]; exact hc
        · exact e1
      -- a call, by its three kinds
      have callB : ∀ {i n1 : Nat} {v1 : Option Value} {hp1 : List jc} {c1 s1 : Nat}, j_cal yn bt rt mx own TW l1 → Cond.methodLink (own k) i (yn l1) ∈ TW → (parseMethodDescriptor (yn l1).desc).map (fun d => d.parameters.length) = some n1 → 1 ≤ fr → mx l1 + 19 ≤ lo →
          CallB R s args (own k) i (yn l1) (bt l1) (mx l1) (rt l1) (Cond.code (yn l1) (bt l1) (mx l1) (rt l1) :: TW) { frames := fr - 1, cells := c1, slots := s1, locals := lo - (mx l1 + 19) } c1 s1 n1 := by
        intro i n1 v1 hp1 c1 s1 hcal hlink hpar hfr hlo
        exact ⟨rfl, rfl, by show fr - 1 + 1 ≤ R.frames; omega, by show 8 + (mx l1 + 11) + (lo - (mx l1 + 19)) ≤ R.locals; omega, fun x hx a' U hW => word_at hW (hgood x (word x hx hcal.1)) (hts x (word x hx hcal.1)), List.mem_cons_self, hts _ hcal.1, hts _ hcal.2.1, hcal.2.2.2.1, j_param n1 hpar, hts _ hlink⟩
      have callN : ∀ {i n1 : Nat} {host : String} {v1 : Option Value} {hp1 : List jc} {c1 s1 : Nat}, j_cal yn bt rt mx own TW l1 → (Cond.methodLinkNest (own k) i (yn l1) host).before args s = true → (parseMethodDescriptor (yn l1).desc).map (fun d => d.parameters.length) = some n1 → 1 ≤ fr → mx l1 + 19 ≤ lo →
          va_CN R s args (own k) i (yn l1) host (bt l1) (mx l1) (rt l1) (Cond.code (yn l1) (bt l1) (mx l1) (rt l1) :: TW) { frames := fr - 1, cells := c1, slots := s1, locals := lo - (mx l1 + 19) } c1 s1 n1 := by
        intro i n1 host v1 hp1 c1 s1 hcal hlink hpar hfr hlo
        exact ⟨⟨rfl, rfl, by show fr - 1 + 1 ≤ R.frames; omega, by show 8 + (mx l1 + 11) + (lo - (mx l1 + 19)) ≤ R.locals; omega, fun x hx a' U hW => word_at hW (hgood x (word x hx hcal.1)) (hts x (word x hx hcal.1)), List.mem_cons_self⟩, hts _ hcal.1, hts _ hcal.2.1, hcal.2.2.2.1, j_param n1 hpar, hlink⟩
      have step : ∀ (hj : (match jstep df (mx k) pc (ins, len, l1, l2, val, ty) lv st hp with
          | some (pc', lv', st', hp', dc, ds) => jrun F mx rc df n k pc' lv' st' hp' (cells + dc) (slots + ds) fr lo
          | none => none) = some (v, hp', c', s')), W p l e R s m args below meth c H locs cells slots (MQ below (j_Qc g ad B D cA cl v hp') args s c' s' (j_A B)) (F0 m pc ls (st.map (j_rv g))) := by
        intro hj
        split at hj
        · rename_i pc1 lv1 st1 hp1 dc ds hst
          have hm := jrun_mono _ _ _ _ _ _ _ _ _ _ _ hj
          exact j_step_all hC hkd hok hst hl hH hS (Nat.le_trans hm.1 hRc) (Nat.le_trans hm.2 hRs) (fun H1 locs1 ls1 hl1 hH1 hS1 => ih p e R s m args below meth c H1 locs1 k pc1 lv1 st1 hp1 _ _ fr lo v hp' c' s' ls1 hj hC hret hl1 hH1 hS1 hRc hRs hRf hRl)
        · cases hj
      cases ins with
      | ireturn =>
        obtain ⟨hd, -, rfl, hrt⟩ := hok
        dsimp only at h
        split at h
        · rename_i x
          cases hb1 : j_fit ty (.int x) with
          | false => rw [hb1] at h; cases h
          | true =>
            rw [hb1] at h
            cases h
            have hn := (j_rv_fit g ad B hG hb1).1
            exact W.zret hx hb (hret.trans hrt) hn (fun t ht hW => ⟨rfl, by rw [ht]; exact hH.moved hW.alike, hS.F ht⟩) hS.2.2 hd
        · cases h
      | lreturn =>
        obtain ⟨hd, -, rfl, hrt⟩ := hok
        dsimp only at h
        split at h
        · rename_i x
          cases h
          exact W.lret hx hb (hret.trans hrt) (fun t ht hW => ⟨rfl, by rw [ht]; exact hH.moved hW.alike, hS.F ht⟩) hS.2.2 hd
        · cases h
      | areturn =>
        obtain ⟨hd, -, rfl, tr, hrt⟩ := hok
        dsimp only at h
        split at h
        · rename_i x
          cases hb1 : Nat.ble 9 x with
          | false => rw [hb1] at h; cases h
          | true =>
            rw [hb1] at h
            cases h
            exact W.aret (v := g x) hx hb (hret.trans hrt) (Or.inr ⟨_, rfl⟩) (Or.inr ⟨_, hG.ref (Nat.le_of_ble_eq_true hb1)⟩) (fun t ht hW => ⟨rfl, by rw [ht]; exact hH.moved hW.alike, hS.F ht⟩) hS.2.2 hd
        · cases h
      | return_ =>
        obtain ⟨hd, -, rfl, hrt⟩ := hok
        dsimp only at h
        split at h
        · cases h
          exact W.vret hx hb (hret.trans hrt) (fun t ht hW => ⟨rfl, by rw [ht]; exact hH.moved hW.alike, hS.F ht⟩) hS.2.2 hd
        · cases h
      | invokevirtual i =>
        obtain ⟨hd, -, rfl, hcal, hlink, hinst, hsel, ⟨n1, hn1, hpar⟩, hrc⟩ := hok
        change l2 = n1 + 1 at hn1
        subst hn1
        dsimp only at h
        generalize hbe : (Nat.ble (n1 + 1) st.length && Nat.ble ((st.drop (n1 + 1)).map fun v => v.category).sum 8 && Nat.ble 1 fr && Nat.ble (mx l1 + 19) lo && Nat.ble (lg_sl (st.take (n1 + 1)).reverse).length (mx l1) &&
          (if true = true then (match (st.take (n1 + 1)).reverse with | .ref a :: _ => (match j_nth hp a with | some (false, ci, _) => Nat.beq ci (rc l1) && (Nat.ble 9 a || Nat.beq ci 99) | _ => false) | _ => false) else true)) = bb at h
        cases bb with
        | false => cases h
        | true =>
          simp only [Bool.and_eq_true, if_true] at hbe
          obtain ⟨⟨⟨⟨⟨b1, b2⟩, b3⟩, b4⟩, b5⟩, b6⟩ := hbe
          have b1 := Nat.le_of_ble_eq_true b1
          have b2 := Nat.le_of_ble_eq_true b2
          have b3 := Nat.le_of_ble_eq_true b3
          have b4 := Nat.le_of_ble_eq_true b4
          have b5 := Nat.le_of_ble_eq_true b5
          simp only [cond_true] at h
          split at h
          · rename_i v1 hp1 c1 s1 hrun
            have hm := jrun_mono _ _ _ _ _ _ _ _ _ _ _ h
            have hsp := j_split (g := g) b1
            have hlen := j_take b1
            generalize has : (st.take (n1 + 1)).reverse = as at hrun b5 b6 hsp hlen
            split at b6
            · rename_i a r
              split at b6
              · rename_i ci fs ha
                rw [j_nth_eq] at ha
                rw [Bool.and_eq_true, Bool.or_eq_true] at b6
                have e1 : ci = rc l1 := Nat.eq_of_beq_eq_true b6.1
                have h8 : a ≠ 8 := fun e8 => by
                  rw [e8, hH.2.2.1] at ha
                  have e9 : ci = 98 := by
                    have := Option.some.inj ha
                    exact (congrArg (fun z : jc => z.2.1) this).symm
                  have b62 := b6.2
                  rw [e8, e9] at b62
                  rcases b62 with z | z <;> exact absurd z (by decide)
                have hin := hH.2.2.2 a _ ha
                have hrecv : ∃ cellB : Cell, H[ad a]? = some cellB ∧ cellB.vm.isStatics = false ∧ s.vm.findClass (yn l1).cls = some cellB.cls := by
                  unfold j_in at hin
                  rcases hrc with ⟨z1, z2⟩ | ⟨z1, rr, z2, z3⟩
                  · by_cases hk : a < 9
                    · rw [if_pos hk] at hin
                      obtain ⟨-, q4, -⟩ := hin.2 rfl (e1.trans z1)
                      rw [z2]
                      exact q4
                    · rw [if_neg hk] at hin
                      obtain ⟨rr, g1, -, -⟩ := hin.2 rfl
                      have z : cl[99]? = some rr := by rw [← z1, ← e1]; exact g1
                      rw [hkd.2.1] at z
                      cases z
                  · have hk : ¬ a < 9 := fun z => by
                      rcases b6.2 with y | y
                      · exact absurd (Nat.le_of_ble_eq_true y) (Nat.not_le.mpr z)
                      · exact z1 (e1.symm.trans (Nat.eq_of_beq_eq_true y))
                    rw [if_neg hk] at hin
                    obtain ⟨r2, g1, g2, cell, g3, g4, g5, g6⟩ := hin.2 rfl
                    have hr : r2 = rr := Option.some.inj (g1.symm.trans (by rw [show ci = rc l1 from e1]; exact z2))
                    subst hr
                    obtain ⟨-, hfc, -⟩ := hK.1 ci _ g1
                    exact ⟨cell, g3, by rw [g5]; rfl, by rw [← z3, g4]; exact hfc⟩
                refine j_call (va_runV (As := r.map (j_rv g)) (rest := (st.drop (n1 + 1)).map (j_rv g)) (b := ad a) (C := (yn l1).cls) ⟨hx, hb, hml, hown, hts⟩ (j_met hG n ih hrun b5 hcal) ⟨callB (v1 := v1) (hp1 := hp1) hcal hlink hpar b3 b4, hts _ hinst, hts _ hsel⟩ ⟨j_Pre.blind, hrecv, fun U hU hW => ⟨?_, j_Pre.at hK hSt hKs hBs hH hS hU hW⟩⟩ rfl ?_ hl.1 ?_ (lv_room (by rw [j_cats hG]; exact b2)) hd ⟨Nat.le_trans hm.1 hRc, Nat.le_trans hm.2 hRs⟩) hS (fun H1 locs1 hH1 hS1 => ?_)
                · show (Value.ref (ad a) :: r.map (j_rv g)).toArray = (j_rv g (.ref a) :: r.map (j_rv g)).toArray
                  rw [show j_rv g (.ref a) = .ref (ad a) from hG.1 a h8]
                · simpa using hlen
                · show st.map (j_rv g) = _
                  rw [hsp]
                  simp [show j_rv g (.ref a) = .ref (ad a) from hG.1 a h8]
                · rw [← j_toList]
                  exact ih p e R s m args below meth c H1 locs1 k (pc + 3) lv _ hp1 _ _ fr lo v hp' c' s' ls h hC hret hl hH1 hS1 hRc hRs hRf hRl
              · cases b6
            · cases b6
          · cases h
      | invokestatic i =>
        obtain ⟨hd, -, rfl, hor⟩ := hok
        rcases hor with ⟨z1, hlink, hnat, hstat, hini⟩ | ⟨z1, hcal, hlink, hstat, hpar⟩
        · change l1 = 1001 at z1
          subst z1
          dsimp only at h
          rw [show Nat.ble 1001 1001 = true from rfl] at h
          simp only [cond_true] at h
          cases hb1 : Nat.ble 1 fr && Nat.ble ((st.map fun v => v.category).sum + 40) lo with
          | false => rw [hb1] at h; cases h
          | true =>
            rw [hb1] at h
            simp only [cond_true] at h
            rw [Bool.and_eq_true] at hb1
            have b1 := Nat.le_of_ble_eq_true hb1.1
            have b2 := Nat.le_of_ble_eq_true hb1.2
            split at h
            · rename_i st2 hp2 hn
              have hn : j_cpy st hp = some (st2, hp2) := hn
              exact j_s_copy hC hd hn hlink hnat hstat hini (Nat.le_trans b1 hRf) (Nat.le_trans b2 hRl) hl.1 hH hS (fun H1 locs1 hH1 hS1 => ih p e R s m args below meth c H1 locs1 k (pc + 3) lv st2 hp2 _ _ fr lo v hp' c' s' ls h hC hret hl hH1 hS1 hRc hRs hRf hRl)
            · cases h
        change ¬ 1001 ≤ l1 at z1
        have hb0 : Nat.ble 1001 l1 = false := by
          cases hq : Nat.ble 1001 l1 with
          | false => rfl
          | true => exact absurd (Nat.le_of_ble_eq_true hq) z1
        change (parseMethodDescriptor (yn l1).desc).map (fun d => d.parameters.length) = some l2 at hpar
        dsimp only at h
        rw [hb0] at h
        simp only [cond_false] at h
        generalize hbe : (Nat.ble l2 st.length && Nat.ble ((st.drop l2).map fun v => v.category).sum 8 && Nat.ble 1 fr && Nat.ble (mx l1 + 19) lo && Nat.ble (lg_sl (st.take l2).reverse).length (mx l1) &&
          (if false = true then (match (st.take l2).reverse with | .ref a :: _ => (match j_nth hp a with | some (false, ci, _) => Nat.beq ci (rc l1) && (Nat.ble 9 a || Nat.beq ci 99) | _ => false) | _ => false) else true)) = bb at h
        cases bb with
        | false => cases h
        | true =>
          simp only [Bool.and_eq_true] at hbe
          obtain ⟨⟨⟨⟨⟨b1, b2⟩, b3⟩, b4⟩, b5⟩, -⟩ := hbe
          have b1 := Nat.le_of_ble_eq_true b1
          have b2 := Nat.le_of_ble_eq_true b2
          have b3 := Nat.le_of_ble_eq_true b3
          have b4 := Nat.le_of_ble_eq_true b4
          have b5 := Nat.le_of_ble_eq_true b5
          simp only [cond_true] at h
          split at h
          · rename_i v1 hp1 c1 s1 hrun
            have hm := jrun_mono _ _ _ _ _ _ _ _ _ _ _ h
            have hsp := j_split (g := g) b1
            have hlen := j_take b1
            generalize has : (st.take l2).reverse = as at hrun b5 hsp hlen
            have hgo : ∀ (H1 : Heap) (locs1 : List Loc), j_H g ad B D cA cl s H1 hp1 → va_S (j_A B) s.heap H1 locs1 → W p l e R s m args below meth c H1 locs1 (cells + c1) (slots + s1) (MQ below (j_Qc g ad B D cA cl v hp') args s c' s' (j_A B)) (F0 m (pc + 3) ls ((v1.map (j_rv g)).toList ++ (st.drop l2).map (j_rv g))) := by
              intro H1 locs1 hH1 hS1
              rw [← j_toList]
              exact ih p e R s m args below meth c H1 locs1 k (pc + 3) lv _ hp1 _ _ fr lo v hp' c' s' ls h hC hret hl hH1 hS1 hRc hRs hRf hRl
            have hlen2 : (as.map (j_rv g)).length = l2 := by simpa using hlen
            have hroom : 2 * (F0 m pc ls (st.map (j_rv g))).monitorRoom + (((st.drop l2).map (j_rv g)).map fun v => v.category).sum ≤ 8 := lv_room (by rw [j_cats hG]; exact b2)
            have hpre : PreS s H (va_Pc (as.map (j_rv g)) (j_Pre g ad B D cA cl zs ks hp)) (as.map (j_rv g)) := ⟨j_Pre.blind, fun U hU hW => ⟨rfl, j_Pre.at hK hSt hKs hBs hH hS hU hW⟩⟩
            rcases hlink with hlink | ⟨host, hlink⟩
            · exact j_call (va_runS (As := as.map (j_rv g)) (rest := (st.drop l2).map (j_rv g)) ⟨hx, hb, hml, hown, hts⟩ (j_met hG n ih hrun b5 hcal) ⟨callB (v1 := v1) (hp1 := hp1) hcal hlink hpar b3 b4, hts _ hstat⟩ hpre rfl hlen2 hl.1 hsp hroom hd ⟨Nat.le_trans hm.1 hRc, Nat.le_trans hm.2 hRs⟩) hS hgo
            · exact j_call (va_runSN (As := as.map (j_rv g)) (rest := (st.drop l2).map (j_rv g)) (host := host) ⟨hx, hb, hml, hown, hts⟩ (j_met hG n ih hrun b5 hcal) ⟨callN (v1 := v1) (hp1 := hp1) hcal ((hKs.2 _ hlink).2.use rfl) hpar b3 b4, hts _ hstat, trivial⟩ hpre rfl hlen2 hl.1 hsp hroom hd ⟨Nat.le_trans hm.1 hRc, Nat.le_trans hm.2 hRs⟩) hS hgo
          · cases h
      | invokespecial i =>
        obtain ⟨hd, -, rfl, hok⟩ := hok
        rcases hok with ⟨z1, hlink, hinst, hcode⟩ | ⟨z1, hcal, hlink, hinst, hnm, hrt, n1, hn1, hpar⟩
        · change l1 = 1000 at z1
          subst z1
          dsimp only at h
          rw [show Nat.beq 1000 1000 = true from rfl] at h
          simp only [cond_true] at h
          split at h
          · rename_i a r
            cases hb1 : Nat.ble 9 a && Nat.ble 1 fr && Nat.ble ((r.map fun v => v.category).sum + 12) lo with
            | false => rw [hb1] at h; cases h
            | true =>
              rw [hb1] at h
              rw [Bool.and_eq_true, Bool.and_eq_true] at hb1
              have b1 := Nat.le_of_ble_eq_true hb1.1.1
              have b2 := Nat.le_of_ble_eq_true hb1.1.2
              have b3 := Nat.le_of_ble_eq_true hb1.2
              show W p l e R s m args below meth c H locs _ _ _ (F0 m pc ls (g a :: r.map (j_rv g)))
              rw [hG.ref b1]
              exact W.objInit hx hb hown (hts _ hlink) (hts _ hinst) (hts _ hcode) rfl (hl.1.trans hml.symm) rfl hd (Nat.le_trans b2 hRf) (by rw [j_cats hG]; show 2 * 0 + _ + 12 ≤ _; omega) (ih p e R s m args below meth c H locs k (pc + 3) lv r hp _ _ fr lo v hp' c' s' ls h hC hret hl hH hS hRc hRs hRf hRl)
          · cases h
        · change ¬ l1 = 1000 at z1
          change l2 = n1 + 1 at hn1
          subst hn1
          have hb0 : Nat.beq l1 1000 = false := by
            cases hq : Nat.beq l1 1000 with
            | false => rfl
            | true => exact absurd (Nat.eq_of_beq_eq_true hq) z1
          dsimp only at h
          rw [hb0] at h
          simp only [cond_false] at h
          generalize hbd : j_hd9 (st.drop (n1 + 1 - 1)) = bd at h
          cases bd with
          | false => cases h
          | true =>
            simp only [cond_true] at h
            generalize hbe : (Nat.ble (n1 + 1) st.length && Nat.ble ((st.drop (n1 + 1)).map fun v => v.category).sum 8 && Nat.ble 1 fr && Nat.ble (mx l1 + 19) lo && Nat.ble (lg_sl (st.take (n1 + 1)).reverse).length (mx l1) &&
              (if false = true then (match (st.take (n1 + 1)).reverse with | .ref a :: _ => (match j_nth hp a with | some (false, ci, _) => Nat.beq ci (rc l1) && (Nat.ble 9 a || Nat.beq ci 99) | _ => false) | _ => false) else true)) = bb at h
            cases bb with
            | false => cases h
            | true =>
              simp only [Bool.and_eq_true] at hbe
              obtain ⟨⟨⟨⟨⟨b1, b2⟩, b3⟩, b4⟩, b5⟩, -⟩ := hbe
              have b1 := Nat.le_of_ble_eq_true b1
              have b2 := Nat.le_of_ble_eq_true b2
              have b3 := Nat.le_of_ble_eq_true b3
              have b4 := Nat.le_of_ble_eq_true b4
              have b5 := Nat.le_of_ble_eq_true b5
              simp only [cond_true] at h
              split at h
              · rename_i v1 hp1 c1 s1 hrun
                have hm := jrun_mono _ _ _ _ _ _ _ _ _ _ _ h
                have hsp := j_split (g := g) b1
                have hlen := j_take b1
                unfold j_hd9 at hbd
                split at hbd
                · rename_i a r hdr
                  have h9 := Nat.le_of_ble_eq_true hbd
                  have has := j_head b1 hdr
                  rw [has] at hrun b5 hsp hlen
                  have hcb := callB (i := i) (v1 := v1) (hp1 := hp1) (c1 := c1) (s1 := s1) hcal hlink hpar b3 b4
                  have hmet := j_met (l := l) hG n ih hrun b5 hcal
                  rw [hrt] at hcb hmet
                  refine j_call (va_runI (As := (st.take n1).reverse.map (j_rv g)) (rest := (st.drop (n1 + 1)).map (j_rv g)) (b := ad a) ⟨hx, hb, hml, hown, hts⟩ hmet ⟨hcb, hnm, hts _ hinst⟩ ⟨j_Pre.blind, fun U hU hW => ⟨?_, j_Pre.at hK hSt hKs hBs hH hS hU hW⟩⟩ rfl ?_ hl.1 ?_ (lv_room (by rw [j_cats hG]; exact b2)) hd ⟨Nat.le_trans hm.1 hRc, Nat.le_trans hm.2 hRs⟩) hS (fun H1 locs1 hH1 hS1 => ?_)
                  · show (Value.ref (ad a) :: (st.take n1).reverse.map (j_rv g)).toArray = (j_rv g (.ref a) :: (st.take n1).reverse.map (j_rv g)).toArray
                    rw [show j_rv g (.ref a) = .ref (ad a) from hG.ref h9]
                  · simpa using hlen
                  · show st.map (j_rv g) = _
                    rw [hsp]
                    simp [show j_rv g (.ref a) = .ref (ad a) from hG.ref h9]
                  · rw [← j_toList]
                    exact ih p e R s m args below meth c H1 locs1 k (pc + 3) lv _ hp1 _ _ fr lo v hp' c' s' ls h hC hret hl hH1 hS1 hRc hRs hRf hRl
                · cases hbd
              · cases h
      | _ => exact step h
end JT
end
