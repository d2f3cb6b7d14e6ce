/-! THE SMALL MACHINE: methods run over a list of cells; a reference is a place in the list. Places 0 .. 8 are old cells (the script, a static table, string constants), read alone. -/
abbrev jc : Type := Bool × Nat × List Value
abbrev jE : Type := Instr × Nat × Nat × Nat × Value × FieldType
abbrev jL : Type := List (Nat × Value)
abbrev jX : Type := Nat × jL × List Value × List jc × Nat × Nat
noncomputable def j_nth {α : Type} (l : List α) : Nat → Option α := List.rec (fun _ => none) (fun a _ ih i => Nat.casesOn i (some a) (fun j => ih j)) l
noncomputable def j_set {α : Type} (v : α) (l : List α) : Nat → List α := List.rec (fun _ => []) (fun a t ih i => Nat.casesOn i (v :: t) (fun j => a :: ih j)) l
noncomputable def j_get (l : jL) (i : Nat) : Option Value := List.rec none (fun q _ ih => cond (Nat.beq q.1 i) (some q.2) ih) l
def j_cat1 : Value → Bool | .long _ => false | .double _ => false | _ => true
noncomputable def j_ins (q : Nat × Value) (l : jL) : jL := List.rec [q] (fun a t ih => cond (Nat.ble q.1 a.1) (q :: a :: t) (a :: ih)) l
noncomputable def j_put1 (lv : jL) (i : Nat) (v : Value) : jL := j_ins (i, v) (lv.filter (fun q => !(q.1 == i) && !(q.1 + 1 == i && q.2.category == 2)))
noncomputable def j_put2 (lv : jL) (i : Nat) (v : Value) : jL := j_ins (i, v) (lv.filter (fun q => !(q.1 == i) && (!(q.1 == i + 1) && !(q.1 + 1 == i && q.2.category == 2))))
def j_ii (f : Int32 → Int32 → Int32) : List Value → Option (List Value) | .int y :: .int x :: r => some (.int (f x y) :: r) | _ => none
def j_id (f : Int32 → Int32 → Int32) : List Value → Option (List Value) | .int y :: .int x :: r => if y = 0 then none else some (.int (f x y) :: r) | _ => none
def j_ll (f : Int64 → Int64 → Int64) : List Value → Option (List Value) | .long y :: .long x :: r => some (.long (f x y) :: r) | _ => none
def j_ld (f : Int64 → Int64 → Int64) : List Value → Option (List Value) | .long y :: .long x :: r => if y = 0 then none else some (.long (f x y) :: r) | _ => none
def j_li (f : Int64 → Int32 → Int64) : List Value → Option (List Value) | .int y :: .long x :: r => some (.long (f x y) :: r) | _ => none
def j_ck (c : ClassFile.Cond) (x y : Int32) : Bool := match c with
  | .eq => decide (x = y)
  | .ne => decide (¬ x = y)
  | .lt => decide (x < y)
  | .ge => decide (y ≤ x)
  | .gt => decide (y < x)
  | .le => decide (x ≤ y)
def j_fit : FieldType → Value → Bool
  | .int, .int _ => true
  | .long, .long _ => true
  | .object _, .ref _ => true
  | .array _, .ref _ => true
  | .boolean, .int x => decide (x = 0) || decide (x = 1)
  | .byte, .int x => decide (x.toInt8.toInt32 = x) && decide (-128 ≤ x) && decide (x ≤ 127)
  | .char, .int x => decide ((x.toUInt32 % 65536).toInt32 = x) && decide (0 ≤ x) && decide (x ≤ 65535)
  | _, _ => false
noncomputable def j_at (hp : List jc) (a : Nat) (ts : List Nat) : Option (List Value) := match j_nth hp a with
  | some (true, t, l) => cond (ts.any (fun z => Nat.beq z t)) (some l) none
  | _ => none
noncomputable def j_ald (hp : List jc) (ts : List Nat) : List Value → Option (List Value)
  | .int i :: .ref a :: r => match j_at hp a ts with
    | some l => if i < 0 then none else match j_nth l i.toNatClampNeg with
      | some v => some (v :: r)
      | none => none
    | none => none
  | _ => none
noncomputable def j_ast (hp : List jc) (a t : Nat) (i : Int32) (v : Value) : Option (List jc) := cond (Nat.ble 9 a) (match j_at hp a [t] with
  | some l => if i < 0 then none else cond (Nat.blt i.toNatClampNeg l.length) (some (j_set (true, t, j_set v l i.toNatClampNeg) hp a)) none
  | none => none) none
def j_tsw (pc : Nat) (dflt lo hi : Int) (offs : Array Int) (x : Int) : Option Nat :=
  let off : Option Int := if x < lo ∨ hi < x then some dflt else offs[(x - lo).toNat]?
  match off with
  | some o => match (pc : Int) + o with
    | .ofNat n => some n
    | .negSucc _ => none
  | none => none
def j_lsw (pc : Nat) (dflt : Int) (ps : Array (Int × Int)) (x : Int) : Option Nat := match (pc : Int) + Op.lookupswitch.offset ps.toList dflt x with
  | .ofNat n => some n
  | .negSucc _ => none
def j_go (pc len : Nat) (lv : jL) (hp : List jc) : Option (List Value) → Option jX | some st' => some (pc + len, lv, st', hp, 0, 0) | none => none
noncomputable def jstep (df : Nat → List Value) (nl pc : Nat) (e : jE) (lv : jL) (st : List Value) (hp : List jc) : Option jX :=
  match e.1 with
  | .iconst n => j_go pc 1 lv hp (some (.int (Int32.ofInt n) :: st))
  | .bipush n => j_go pc 2 lv hp (some (.int (Int8.ofInt n).toInt32 :: st))
  | .sipush n => j_go pc 3 lv hp (some (.int (Int16.ofInt n).toInt32 :: st))
  | .lconst n => j_go pc 1 lv hp (some (.long (Int64.ofNat (n : Nat)) :: st))
  | .iload_n k => j_go pc 1 lv hp (match j_get lv k with | some (.int x) => some (.int x :: st) | _ => none)
  | .iload i => j_go pc 2 lv hp (match j_get lv i with | some (.int x) => some (.int x :: st) | _ => none)
  | .lload_n k => j_go pc 1 lv hp (match j_get lv k with | some (.long x) => some (.long x :: st) | _ => none)
  | .lload i => j_go pc 2 lv hp (match j_get lv i with | some (.long x) => some (.long x :: st) | _ => none)
  | .aload_n k => j_go pc 1 lv hp (match j_get lv k with | some (.ref x) => some (.ref x :: st) | _ => none)
  | .aload i => j_go pc 2 lv hp (match j_get lv i with | some (.ref x) => some (.ref x :: st) | _ => none)
  | .istore_n k => match st with | .int x :: r => cond (Nat.blt k nl) (some (pc + 1, j_put1 lv k (.int x), r, hp, 0, 0)) none | _ => none
  | .istore i => match st with | .int x :: r => cond (Nat.blt i nl) (some (pc + 2, j_put1 lv i (.int x), r, hp, 0, 0)) none | _ => none
  | .astore_n k => match st with | .ref x :: r => cond (Nat.blt k nl && Nat.ble 9 x) (some (pc + 1, j_put1 lv k (.ref x), r, hp, 0, 0)) none | _ => none
  | .astore i => match st with | .ref x :: r => cond (Nat.blt i nl && Nat.ble 9 x) (some (pc + 2, j_put1 lv i (.ref x), r, hp, 0, 0)) none | _ => none
  | .lstore_n k => match st with | .long x :: r => cond (Nat.blt (k + 1) nl) (some (pc + 1, j_put2 lv k (.long x), r, hp, 0, 0)) none | _ => none
  | .lstore i => match st with | .long x :: r => cond (Nat.blt (i + 1) nl) (some (pc + 2, j_put2 lv i (.long x), r, hp, 0, 0)) none | _ => none
  | .iinc i n => match j_get lv i with | some (.int x) => cond (Nat.blt i nl && Nat.beq e.2.1 3) (some (pc + 3, j_put1 lv i (.int (x + Int32.ofInt n)), st, hp, 0, 0)) none | _ => none
  | .iadd => j_go pc 1 lv hp (j_ii (fun x y => x + y) st)
  | .isub => j_go pc 1 lv hp (j_ii (fun x y => x - y) st)
  | .imul => j_go pc 1 lv hp (j_ii (fun x y => x * y) st)
  | .iand => j_go pc 1 lv hp (j_ii (fun x y => x &&& y) st)
  | .ior => j_go pc 1 lv hp (j_ii (fun x y => x ||| y) st)
  | .ishl => j_go pc 1 lv hp (j_ii (fun x y => x <<< (y &&& 31)) st)
  | .ishr => j_go pc 1 lv hp (j_ii (fun x y => x >>> (y &&& 31)) st)
  | .iushr => j_go pc 1 lv hp (j_ii (fun x y => (x.toUInt32 >>> (y.toUInt32 &&& Int32.toUInt32 31)).toInt32) st)
  | .idiv => j_go pc 1 lv hp (j_id (fun x y => x / y) st)
  | .irem => j_go pc 1 lv hp (j_id (fun x y => x - x / y * y) st)
  | .ladd => j_go pc 1 lv hp (j_ll (fun x y => x + y) st)
  | .lsub => j_go pc 1 lv hp (j_ll (fun x y => x - y) st)
  | .lmul => j_go pc 1 lv hp (j_ll (fun x y => x * y) st)
  | .land => j_go pc 1 lv hp (j_ll (fun x y => x &&& y) st)
  | .lor => j_go pc 1 lv hp (j_ll (fun x y => x ||| y) st)
  | .lxor => j_go pc 1 lv hp (j_ll (fun x y => x ^^^ y) st)
  | .ldiv => j_go pc 1 lv hp (j_ld (fun x y => x / y) st)
  | .lrem => j_go pc 1 lv hp (j_ld (fun x y => x - x / y * y) st)
  | .lshl => j_go pc 1 lv hp (j_li (fun x y => x <<< (y.toInt64 &&& 63)) st)
  | .lshr => j_go pc 1 lv hp (j_li (fun x y => x >>> (y.toInt64 &&& 63)) st)
  | .lushr => j_go pc 1 lv hp (j_li (fun x y => (x.toUInt64 >>> (y.toInt64.toUInt64 &&& Int64.toUInt64 63)).toInt64) st)
  | .lcmp => j_go pc 1 lv hp (match st with | .long y :: .long x :: r => some (.int (lg_cmp x y) :: r) | _ => none)
  | .ineg => j_go pc 1 lv hp (match st with | .int x :: r => some (.int (-x) :: r) | _ => none)
  | .lneg => j_go pc 1 lv hp (match st with | .long x :: r => some (.long (-x) :: r) | _ => none)
  | .i2l => j_go pc 1 lv hp (match st with | .int x :: r => some (.long x.toInt64 :: r) | _ => none)
  | .l2i => j_go pc 1 lv hp (match st with | .long x :: r => some (.int x.toInt32 :: r) | _ => none)
  | .i2c => j_go pc 1 lv hp (match st with | .int x :: r => some (.int (x.toUInt32 % 65536).toInt32 :: r) | _ => none)
  | .dup => j_go pc 1 lv hp (match st with | v :: r => cond (j_cat1 v) (some (v :: v :: r)) none | _ => none)
  | .pop => j_go pc 1 lv hp (match st with | v :: r => cond (j_cat1 v) (some r) none | _ => none)
  | .dup2 => j_go pc 1 lv hp (match st with | v :: w :: r => cond (j_cat1 v && j_cat1 w) (some (v :: w :: v :: w :: r)) none | _ => none)
  | .ifCond c _ => match st with | .int x :: r => some (cond (j_ck c x 0) e.2.2.1 (pc + 3), lv, r, hp, 0, 0) | _ => none
  | .if_icmp c _ => match st with | .int y :: .int x :: r => some (cond (j_ck c x y) e.2.2.1 (pc + 3), lv, r, hp, 0, 0) | _ => none
  | .goto _ => some (e.2.2.1, lv, st, hp, 0, 0)
  | .tableswitch dflt lo hi offs => match st with | .int x :: r => (match j_tsw pc dflt lo hi offs x.toInt with | some t => some (t, lv, r, hp, 0, 0) | none => none) | _ => none
  | .lookupswitch dflt ps => match st with | .int x :: r => (match j_lsw pc dflt ps x.toInt with | some t => some (t, lv, r, hp, 0, 0) | none => none) | _ => none
  | .getfield _ => j_go pc 3 lv hp (match st with
    | .ref a :: r => match j_nth hp a with
      | some (false, ci, fs) => cond (Nat.beq ci e.2.2.1 && (Nat.ble 9 a || Nat.beq ci 99)) (match j_nth fs e.2.2.2.1 with | some v => some (v :: r) | none => none) none
      | _ => none
    | _ => none)
  | .putfield _ => match st with
    | v :: .ref a :: r => match j_nth hp a with
      | some (false, ci, fs) => cond (Nat.beq ci e.2.2.1 && Nat.ble 9 a && j_fit e.2.2.2.2.2 v) (some (pc + 3, lv, r, j_set (false, ci, j_set v fs e.2.2.2.1) hp a, 0, 0)) none
      | _ => none
    | _ => none
  | .getstatic _ => j_go pc 3 lv hp (some (e.2.2.2.2.1 :: st))
  | .ldc2_w _ => j_go pc 3 lv hp (some (e.2.2.2.2.1 :: st))
  | .ldc _ => j_go pc 2 lv hp (some (e.2.2.2.2.1 :: st))
  | .arraylength => j_go pc 1 lv hp (match st with
    | .ref a :: r => match j_nth hp a with
      | some (true, _, l) => some (.int (Int32.ofNat l.length) :: r)
      | _ => none
    | _ => none)
  | .iaload => j_go pc 1 lv hp (j_ald hp [0] st)
  | .laload => j_go pc 1 lv hp (j_ald hp [1] st)
  | .caload => j_go pc 1 lv hp (j_ald hp [2] st)
  | .baload => j_go pc 1 lv hp (j_ald hp [3, 5] st)
  | .aaload => j_go pc 1 lv hp (j_ald hp [4] st)
  | .iastore => match st with | .int x :: .int i :: .ref a :: r => (match j_ast hp a 0 i (.int x) with | some hp' => some (pc + 1, lv, r, hp', 0, 0) | none => none) | _ => none
  | .lastore => match st with | .long x :: .int i :: .ref a :: r => (match j_ast hp a 1 i (.long x) with | some hp' => some (pc + 1, lv, r, hp', 0, 0) | none => none) | _ => none
  | .castore => match st with | .int x :: .int i :: .ref a :: r => (match j_ast hp a 2 i (narrow .char (.int x)) with | some hp' => some (pc + 1, lv, r, hp', 0, 0) | none => none) | _ => none
  | .bastore => match st with | .int x :: .int i :: .ref a :: r => (match j_ast hp a 3 i (narrow .boolean (.int x)) with | some hp' => some (pc + 1, lv, r, hp', 0, 0) | none => none) | _ => none
  | .aastore => match st with
    | .ref v :: .int i :: .ref a :: r => match j_nth hp v with
      | some (false, ci, _) => cond (Nat.beq ci 4 && Nat.ble 9 v) (match j_ast hp a 4 i (.ref v) with | some hp' => some (pc + 1, lv, r, hp', 0, 0) | none => none) none
      | _ => none
    | _ => none
  | .new _ => some (pc + 3, lv, .ref hp.length :: st, hp ++ [(false, e.2.2.1, df e.2.2.1)], 1, (df e.2.2.1).length)
  | .newarray _ => match st with
    | .int n :: r => if n < 0 then none else cond (Nat.ble n.toNatClampNeg 60000000) (some (pc + 2, lv, .ref hp.length :: r, hp ++ [(true, e.2.2.1, List.replicate n.toNatClampNeg e.2.2.2.2.1)], 1, n.toNatClampNeg)) none
    | _ => none
  | .anewarray _ => match st with
    | .int n :: r => if n < 0 then none else cond (Nat.ble n.toNatClampNeg 60000000) (some (pc + 3, lv, .ref hp.length :: r, hp ++ [(true, 4, List.replicate n.toNatClampNeg .null)], 1, n.toNatClampNeg)) none
    | _ => none
  | _ => none
/-! A NATIVE METHOD: target 1001: System.arraycopy between rows of ints. -/
def j_isi : Value → Bool | .int _ => true | _ => false
def j_cpl (l0 l1 : List Value) (sp dp n : Nat) : List Value := l1.take dp ++ ((l0.drop sp).take n ++ l1.drop (dp + n))
noncomputable def j_cpy (st : List Value) (hp : List jc) : Option (List Value × List jc) := match st with
  | .int n :: .int dp :: .ref a :: .int sp :: .ref a0 :: r => match j_at hp a0 [0] with
    | some l0 => match j_at hp a [0] with
      | some l1 => if sp < 0 then none else if dp < 0 then none else if n < 0 then none else
        cond (Nat.ble 9 a0 && Nat.ble 9 a && Nat.ble (sp.toNatClampNeg + n.toNatClampNeg) l0.length && Nat.ble (dp.toNatClampNeg + n.toNatClampNeg) l1.length && ((l0.drop sp.toNatClampNeg).take n.toNatClampNeg).all j_isi)
          (some (r, j_set (true, 0, j_cpl l0 l1 sp.toNatClampNeg dp.toNatClampNeg n.toNatClampNeg) hp a)) none
      | none => none
    | none => none
  | _ => none
noncomputable def j_nat (t : Nat) (st : List Value) (hp : List jc) : Option (List Value × List jc) := cond (Nat.beq t 1001) (j_cpy st hp) none
def j_hd9 : List Value → Bool | .ref a :: _ => Nat.ble 9 a | _ => false
abbrev jR : Type := Option Value × List jc × Nat × Nat
noncomputable def jbody (F : Nat → Nat → Option jE) (mx rc : Nat → Nat) (df : Nat → List Value) (ih : Nat → Nat → jL → List Value → List jc → Nat → Nat → Nat → Nat → Option jR) (k pc : Nat) (lv : jL) (st : List Value) (hp : List jc) (c sl fr lo : Nat) : Option jR :=
  let call (virt : Bool) (e : jE) : Option jR :=
    let as := (st.take e.2.2.2.1).reverse
    let rest := st.drop e.2.2.2.1
    let ok : Bool := Nat.ble e.2.2.2.1 st.length && Nat.ble (rest.map fun v => v.category).sum 8 && Nat.ble 1 fr && Nat.ble (mx e.2.2.1 + 19) lo && Nat.ble (lg_sl as).length (mx e.2.2.1) &&
      (if virt then (match as with | .ref a :: _ => (match j_nth hp a with | some (false, ci, _) => Nat.beq ci (rc e.2.2.1) && (Nat.ble 9 a || Nat.beq ci 99) | _ => false) | _ => false) else true)
    cond ok (match ih e.2.2.1 0 (lv_args 0 as) [] hp 0 0 (fr - 1) (lo - (mx e.2.2.1 + 19)) with
      | some (v, hp', c1, s1) => ih k (pc + 3) lv (v.toList ++ rest) hp' (c + c1) (sl + s1) fr lo
      | none => none) none
  match F k pc with
  | none => none
  | some e => match e.1 with
    | .ireturn => match st with | [.int x] => cond (j_fit e.2.2.2.2.2 (.int x)) (some (some (.int x), hp, c, sl)) none | _ => none
    | .lreturn => match st with | [.long x] => some (some (.long x), hp, c, sl) | _ => none
    | .areturn => match st with | [.ref x] => cond (Nat.ble 9 x) (some (some (.ref x), hp, c, sl)) none | _ => none
    | .return_ => match st with | [] => some (none, hp, c, sl) | _ => none
    | .invokevirtual _ => call true e
    | .invokestatic _ => cond (Nat.ble 1001 e.2.2.1)
      (cond (Nat.ble 1 fr && Nat.ble ((st.map fun v => v.category).sum + 40) lo)
        (match j_nat e.2.2.1 st hp with
          | some (st', hp') => ih k (pc + 3) lv st' hp' c sl fr lo
          | none => none) none)
      (call false e)
    | .invokespecial _ => cond (Nat.beq e.2.2.1 1000)
      (match st with
        | .ref a :: r => cond (Nat.ble 9 a && Nat.ble 1 fr && Nat.ble ((r.map fun v => v.category).sum + 12) lo) (ih k (pc + 3) lv r hp c sl fr lo) none
        | _ => none)
      (cond (j_hd9 (st.drop (e.2.2.2.1 - 1))) (call false e) none)
    | _ => match jstep df (mx k) pc e lv st hp with
      | some (pc', lv', st', hp', dc, ds) => ih k pc' lv' st' hp' (c + dc) (sl + ds) fr lo
      | none => none
noncomputable def jrun (F : Nat → Nat → Option jE) (mx rc : Nat → Nat) (df : Nat → List Value) (n : Nat) : Nat → Nat → jL → List Value → List jc → Nat → Nat → Nat → Nat → Option jR :=
  Nat.rec (fun _ _ _ _ _ _ _ _ _ => none) (fun _ ih => jbody F mx rc df ih) n
theorem jrun_succ (F : Nat → Nat → Option jE) (mx rc : Nat → Nat) (df : Nat → List Value) (n : Nat) : jrun F mx rc df (n + 1) = jbody F mx rc df (jrun F mx rc df n) := rfl
