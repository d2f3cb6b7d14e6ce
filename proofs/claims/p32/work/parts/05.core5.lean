section JT
variable {g : Nat → Value} {ad : Nat → Nat} {B : Nat} {D : va_G} {cA : Nat → ClassId} {cl : List vw_C} {TW : List Cond} {zs : List (String × String × String × Value)} {ks : jK} {df : Nat → List Value}
variable {yn : Nat → MethodName} {bt : Nat → ByteArray} {rt : Nat → Option FieldType} {mx rc : Nat → Nat} {own : Nat → String} {F : Nat → Nat → Option jE}
set_option maxHeartbeats 4000000 in
/-- a step that is no call and no end -/
theorem j_step_all {p : Program} {l : Launch} {e : Env} {R : Room} {s : State} {m : MethodId} {args : Array Value} {below : List Frame} {meth : Method} {c : Code} {H : Heap} {locs : List Loc} {cells slots : Nat} {Q : State → Prop} {k pc pc' dc ds : Nat} {lv lv' : jL} {st st' : List Value} {hp hp' : List jc} {ls : Array Slot} {en : jE}
    (hC : j_Cx g ad B D cA cl TW zs ks (own k) (yn k).name (bt k) (mx k) p s m args meth c) (hkd : j_kd cl TW df ∧ cl[99]? = none ∧ ∀ rr : vw_C, cl[4]? = some rr → rr.1 = "HundredWords$Row") (hok : j_ok yn bt rt mx rc own cl TW zs ks k pc en)
    (h : jstep df (mx k) pc en lv st hp = some (pc', lv', st', hp', dc, ds)) (hl : lv_has ls (mx k) (j_sl g lv)) (hH : j_H g ad B D cA cl s H hp) (hS : va_S (j_A B) s.heap H locs) (hc : cells + dc ≤ R.cells) (hs : slots + ds ≤ R.slots)
    (kk : ∀ (H' : Heap) (locs' : List Loc) (ls' : Array Slot), lv_has ls' (mx k) (j_sl g lv') → j_H g ad B D cA cl s H' hp' → va_S (j_A B) s.heap H' locs' → W p l e R s m args below meth c H' locs' (cells + dc) (slots + ds) Q (F0 m pc' ls' (st'.map (j_rv g)))) : W p l e R s m args below meth c H locs cells slots Q (F0 m pc ls (st.map (j_rv g))) := by
  obtain ⟨ins, len, l1, l2, val, ty⟩ := en
  obtain ⟨hd, hlk, hlen⟩ := hok
  cases ins with
  | iconst _ => exact j_s_iconst hC hkd hd hlen hlk h hl hH hS hc hs kk
  | bipush _ => exact j_s_bipush hC hkd hd hlen hlk h hl hH hS hc hs kk
  | sipush _ => exact j_s_sipush hC hkd hd hlen hlk h hl hH hS hc hs kk
  | lconst _ => exact j_s_lconst hC hkd hd hlen hlk h hl hH hS hc hs kk
  | iload_n _ => exact j_s_iload_n hC hkd hd hlen hlk h hl hH hS hc hs kk
  | iload _ => exact j_s_iload hC hkd hd hlen hlk h hl hH hS hc hs kk
  | lload_n _ => exact j_s_lload_n hC hkd hd hlen hlk h hl hH hS hc hs kk
  | lload _ => exact j_s_lload hC hkd hd hlen hlk h hl hH hS hc hs kk
  | aload_n _ => exact j_s_aload_n hC hkd hd hlen hlk h hl hH hS hc hs kk
  | aload _ => exact j_s_aload hC hkd hd hlen hlk h hl hH hS hc hs kk
  | istore_n _ => exact j_s_istore_n hC hkd hd hlen hlk h hl hH hS hc hs kk
  | istore _ => exact j_s_istore hC hkd hd hlen hlk h hl hH hS hc hs kk
  | astore_n _ => exact j_s_astore_n hC hkd hd hlen hlk h hl hH hS hc hs kk
  | astore _ => exact j_s_astore hC hkd hd hlen hlk h hl hH hS hc hs kk
  | lstore_n _ => exact j_s_lstore_n hC hkd hd hlen hlk h hl hH hS hc hs kk
  | lstore _ => exact j_s_lstore hC hkd hd hlen hlk h hl hH hS hc hs kk
  | iinc _ _ => exact j_s_iinc hC hkd hd hlen hlk h hl hH hS hc hs kk
  | iadd => exact j_s_iadd hC hkd hd hlen hlk h hl hH hS hc hs kk
  | isub => exact j_s_isub hC hkd hd hlen hlk h hl hH hS hc hs kk
  | imul => exact j_s_imul hC hkd hd hlen hlk h hl hH hS hc hs kk
  | iand => exact j_s_iand hC hkd hd hlen hlk h hl hH hS hc hs kk
  | ior => exact j_s_ior hC hkd hd hlen hlk h hl hH hS hc hs kk
  | ishl => exact j_s_ishl hC hkd hd hlen hlk h hl hH hS hc hs kk
  | ishr => exact j_s_ishr hC hkd hd hlen hlk h hl hH hS hc hs kk
  | ladd => exact j_s_ladd hC hkd hd hlen hlk h hl hH hS hc hs kk
  | lsub => exact j_s_lsub hC hkd hd hlen hlk h hl hH hS hc hs kk
  | lmul => exact j_s_lmul hC hkd hd hlen hlk h hl hH hS hc hs kk
  | land => exact j_s_land hC hkd hd hlen hlk h hl hH hS hc hs kk
  | lor => exact j_s_lor hC hkd hd hlen hlk h hl hH hS hc hs kk
  | lxor => exact j_s_lxor hC hkd hd hlen hlk h hl hH hS hc hs kk
  | iushr => exact j_s_iushr hC hkd hd hlen hlk h hl hH hS hc hs kk
  | lshl => exact j_s_lshl hC hkd hd hlen hlk h hl hH hS hc hs kk
  | lshr => exact j_s_lshr hC hkd hd hlen hlk h hl hH hS hc hs kk
  | lushr => exact j_s_lushr hC hkd hd hlen hlk h hl hH hS hc hs kk
  | idiv => exact j_s_idiv hC hkd hd hlen hlk h hl hH hS hc hs kk
  | irem => exact j_s_irem hC hkd hd hlen hlk h hl hH hS hc hs kk
  | ldiv => exact j_s_ldiv hC hkd hd hlen hlk h hl hH hS hc hs kk
  | lrem => exact j_s_lrem hC hkd hd hlen hlk h hl hH hS hc hs kk
  | lcmp => exact j_s_lcmp hC hkd hd hlen hlk h hl hH hS hc hs kk
  | ineg => exact j_s_ineg hC hkd hd hlen hlk h hl hH hS hc hs kk
  | lneg => exact j_s_lneg hC hkd hd hlen hlk h hl hH hS hc hs kk
  | i2l => exact j_s_i2l hC hkd hd hlen hlk h hl hH hS hc hs kk
  | l2i => exact j_s_l2i hC hkd hd hlen hlk h hl hH hS hc hs kk
  | i2c => exact j_s_i2c hC hkd hd hlen hlk h hl hH hS hc hs kk
  | dup => exact j_s_dup hC hkd hd hlen hlk h hl hH hS hc hs kk
  | pop => exact j_s_pop hC hkd hd hlen hlk h hl hH hS hc hs kk
  | dup2 => exact j_s_dup2 hC hkd hd hlen hlk h hl hH hS hc hs kk
  | ifCond _ _ => exact j_s_ifCond hC hkd hd hlen hlk h hl hH hS hc hs kk
  | if_icmp _ _ => exact j_s_if_icmp hC hkd hd hlen hlk h hl hH hS hc hs kk
  | goto _ => exact j_s_goto hC hkd hd hlen hlk h hl hH hS hc hs kk
  | tableswitch _ _ _ _ => exact j_s_tableswitch hC hkd hd hlk h hl hH hS hc hs kk
  | lookupswitch _ _ => exact j_s_lookupswitch hC hkd hd hlk h hl hH hS hc hs kk
  | getfield _ => exact j_s_getfield hC hkd hd hlen hlk h hl hH hS hc hs kk
  | putfield _ => exact j_s_putfield hC hkd hd hlen hlk h hl hH hS hc hs kk
  | getstatic _ => exact j_s_getstatic hC hkd hd hlen hlk h hl hH hS hc hs kk
  | ldc2_w _ => exact j_s_ldc2_w hC hkd hd hlen hlk h hl hH hS hc hs kk
  | ldc _ => exact j_s_ldc hC hkd hd hlen hlk h hl hH hS hc hs kk
  | arraylength => exact j_s_arraylength hC hkd hd hlen hlk h hl hH hS hc hs kk
  | iaload => exact j_s_iaload hC hkd hd hlen hlk h hl hH hS hc hs kk
  | laload => exact j_s_laload hC hkd hd hlen hlk h hl hH hS hc hs kk
  | caload => exact j_s_caload hC hkd hd hlen hlk h hl hH hS hc hs kk
  | aaload => exact j_s_aaload hC hkd hd hlen hlk h hl hH hS hc hs kk
  | baload => exact j_s_baload hC hkd hd hlen hlk h hl hH hS hc hs kk
  | iastore => exact j_s_iastore hC hkd hd hlen hlk h hl hH hS hc hs kk
  | lastore => exact j_s_lastore hC hkd hd hlen hlk h hl hH hS hc hs kk
  | castore => exact j_s_castore hC hkd hd hlen hlk h hl hH hS hc hs kk
  | bastore => exact j_s_bastore hC hkd hd hlen hlk h hl hH hS hc hs kk
  | aastore => exact j_s_aastore hC hkd hd hlen hlk h hl hH hS hc hs kk
  | new _ => exact j_s_new hC hkd hd hlen hlk h hl hH hS hc hs kk
  | newarray _ => exact j_s_newarray hC hkd hd hlen hlk h hl hH hS hc hs kk
  | anewarray _ => exact j_s_anewarray hC hkd hd hlen hlk h hl hH hS hc hs kk
  | _ =>
    have h : (none : Option jX) = some (pc', lv', st', hp', dc, ds) := h
    cases h
set_option maxHeartbeats 4000000 in
/-- a method, by its run, as a contract: 'ih': runs that are shorter -/
theorem j_met {l : Launch} (hG : j_G g ad B) (n : Nat)
    (ih : ∀ (p : Program) (e : Env) (R : Room) (s : State) (m : MethodId) (args : Array Value) (below : List Frame) (meth : Method) (c : Code) (H : Heap) (locs : List Loc) (k pc : Nat) (lv : jL) (st : List Value) (hp : List jc) (cells slots fr lo : Nat) (v : Option Value) (hp' : List jc) (c' s' : Nat) (ls : Array Slot),
      jrun F mx rc df n k pc lv st hp cells slots fr lo = some (v, hp', c', s') → j_Cx g ad B D cA cl TW zs ks (own k) (yn k).name (bt k) (mx k) p s m args meth c → meth.sig.returnType = rt k → lv_has ls (mx k) (j_sl g lv) → j_H g ad B D cA cl s H hp → va_S (j_A B) s.heap H locs → c' ≤ R.cells → s' ≤ R.slots → fr ≤ R.frames → lo ≤ R.locals →
      W p l e R s m args below meth c H locs cells slots (MQ below (j_Qc g ad B D cA cl v hp') args s c' s' (j_A B)) (F0 m pc ls (st.map (j_rv g))))
    {j fr lo c1 s1 : Nat} {as : List Value} {hp hp1 : List jc} {v1 : Option Value} (hrun : jrun F mx rc df n j 0 (lv_args 0 as) [] hp 0 0 fr lo = some (v1, hp1, c1, s1)) (hlen : (lg_sl as).length ≤ mx j) (hcal : j_cal yn bt rt mx own TW j) :
    Met l (yn j) (Cond.code (yn j) (bt j) (mx j) (rt j) :: TW) { frames := fr, cells := c1, slots := s1, locals := lo } (va_Pc (as.map (j_rv g)) (j_Pre g ad B D cA cl zs ks hp)) (j_Qc g ad B D cA cl v1 hp1) c1 s1 (j_A B) := by
  refine va_MetF (cc := bt j) (maxL := mx j) (ret := rt j) hcal.2.2.1 rfl ?_
  intro p e s m args below meth c s₁ B0 hml hv
  obtain ⟨rfl, hK, hSt, hKs, hBs, hH⟩ := hv
  have hts := atoms_spec (ws := Cond.code (yn j) (bt j) (mx j) (rt j) :: TW) B0.pre
  have hown : s.vm.findClass (own j) = some m.cls := by rw [hcal.2.2.2.2]; exact findClass_of_methodNamed B0.named
  rw [lg_entry_eq]
  exact ih p e _ s m _ below meth c s.heap [] j 0 (lv_args 0 as) [] hp 0 0 fr lo v1 hp1 c1 s1 _ hrun ⟨hG, B0.exec, B0.bytes, hml, hown, fun x hx => hts x (List.mem_cons_of_mem _ hx), B0.notSynchronized, (fun z => (name_of_methodNamed B0.named B0.method).1.trans z), hK, hSt, hKs, hBs⟩ B0.returns (j_entry hG hlen) hH va_S.rf (Nat.le_refl _) (Nat.le_refl _) (Nat.le_refl _) (Nat.le_refl _)
theorem j_split {n : Nat} {st : List Value} (h : n ≤ st.length) : st.map (j_rv g) = ((st.take n).reverse.map (j_rv g)).reverse ++ (st.drop n).map (j_rv g) := by
  rw [← List.map_reverse, List.reverse_reverse, ← List.map_append, List.take_append_drop]
theorem j_param (d : Nat) {y : MethodName} (h : (parseMethodDescriptor y.desc).map (fun d => d.parameters.length) = some d) : ∀ sig, parseMethodDescriptor y.desc = some sig → d = sig.parameters.length := by
  intro sig hs
  rw [hs] at h
  exact (Option.some.inj h).symm
theorem j_take {n : Nat} {st : List Value} (h : n ≤ st.length) : (st.take n).reverse.length = n := by
  rw [List.length_reverse, List.length_take]
  omega
theorem j_head {n : Nat} {st : List Value} (h : n + 1 ≤ st.length) {a : Nat} {r : List Value} (hd : st.drop n = .ref a :: r) : (st.take (n + 1)).reverse = .ref a :: (st.take n).reverse := by
  have h1 : st[n]? = some (.ref a) := by
    have := List.getElem?_drop (xs := st) (i := n) (j := 0)
    rw [hd] at this
    simpa using this.symm
  rw [List.take_succ, h1]
  simp
theorem j_cpl_len (l0 l1 : List Value) {sp dp n : Nat} (h0 : sp + n ≤ l0.length) (h1 : dp + n ≤ l1.length) : (j_cpl l0 l1 sp dp n).length = l1.length := by
  unfold j_cpl
  simp only [List.length_append, List.length_take, List.length_drop]
  omega
theorem j_cpl_at (l0 l1 : List Value) {sp dp n : Nat} (h0 : sp + n ≤ l0.length) (h1 : dp + n ≤ l1.length) (k : Nat) : (j_cpl l0 l1 sp dp n)[k]? = if dp ≤ k ∧ k < dp + n then l0[sp + (k - dp)]? else l1[k]? := by
  unfold j_cpl
  have e1 : (l1.take dp).length = dp := by rw [List.length_take]; omega
  have e2 : ((l0.drop sp).take n).length = n := by rw [List.length_take, List.length_drop]; omega
  by_cases ha : k < dp
  · rw [List.getElem?_append_left (by omega), if_neg (by omega), List.getElem?_take, if_pos ha]
  · rw [List.getElem?_append_right (by omega), e1]
    by_cases hb : k - dp < n
    · rw [List.getElem?_append_left (by omega), if_pos (by omega), List.getElem?_take, if_pos hb, List.getElem?_drop]
    · rw [List.getElem?_append_right (by omega), e2, if_neg (by omega), List.getElem?_drop, show dp + n + (k - dp - n) = k by omega]
theorem j_copied (g : Nat → Value) (c0 c1 : ClassId) (l0 l1 : List Value) {sp dp n : Int32} (h0 : sp.toNatClampNeg + n.toNatClampNeg ≤ l0.length) (h1 : dp.toNatClampNeg + n.toNatClampNeg ≤ l1.length) :
    copied (arrV c0 l0.length (fun j => j_rv g (l0.getD j .null))) (arrV c1 l1.length (fun j => j_rv g (l1.getD j .null))) sp dp n = arrV c1 (j_cpl l0 l1 sp.toNatClampNeg dp.toNatClampNeg n.toNatClampNeg).length (fun j => j_rv g ((j_cpl l0 l1 sp.toNatClampNeg dp.toNatClampNeg n.toNatClampNeg).getD j .null)) := by
  have e := va_copied (j_rv g) c0 c1 (n0 := l0.length) (n1 := l1.length) (sp := sp.toNatClampNeg) (dp := dp.toNatClampNeg) (n := n.toNatClampNeg) (fun j => l0.getD j .null) (fun j => l1.getD j .null) h0
  rw [j_cpl_len l0 l1 h0 h1]
  refine Eq.trans e ?_
  congr 1
  funext j
  unfold va_cpy
  try dsimp only
  rw [List.getD_eq_getElem?_getD (l := j_cpl _ _ _ _ _), j_cpl_at l0 l1 h0 h1]
  by_cases hj : dp.toNatClampNeg ≤ j ∧ j < dp.toNatClampNeg + n.toNatClampNeg
  · rw [if_pos hj, if_pos hj, List.getD_eq_getElem?_getD]
  · rw [if_neg hj, if_neg hj, List.getD_eq_getElem?_getD]
set_option maxHeartbeats 4000000 in
/-- System.arraycopy between rows of ints -/
theorem j_s_copy {p : Program} {l : Launch} {e : Env} {R : Room} {s : State} {m : MethodId} {args : Array Value} {below : List Frame} {meth : Method} {c : Code} {H : Heap} {locs : List Loc} {cells slots : Nat} {Q : State → Prop} {k pc i : Nat} {st st' : List Value} {hp hp' : List jc} {ls : Array Slot}
    (hC : j_Cx g ad B D cA cl TW zs ks (own k) (yn k).name (bt k) (mx k) p s m args meth c) (hd : decode (bt k) pc = .ok (.invokestatic i, 3)) (h : j_cpy st hp = some (st', hp'))
    (hlink : Cond.methodLink (own k) i arraycopyName ∈ TW) (hnat : Cond.native arraycopyName ∈ TW) (hstat : Cond.static arraycopyName ∈ TW) (hini : Cond.initialized "java/lang/System" ∈ TW)
    (hf : 1 ≤ R.frames) (hlo : (st.map fun v => v.category).sum + 40 ≤ R.locals) (hls : ls.size = mx k) (hH : j_H g ad B D cA cl s H hp) (hS : va_S (j_A B) s.heap H locs)
    (kk : ∀ (H' : Heap) (locs' : List Loc), j_H g ad B D cA cl s H' hp' → va_S (j_A B) s.heap H' locs' → W p l e R s m args below meth c H' locs' cells slots Q (F0 m (pc + 3) ls (st'.map (j_rv g)))) : W p l e R s m args below meth c H locs cells slots Q (F0 m pc ls (st.map (j_rv g))) := by
  obtain ⟨hG, hx, hb, hml, hown, hts, hlocks, hname, hK, hSt, hKs, hBs⟩ := hC
  have nn : ∀ z : Int32, ¬ z < 0 → z.toInt = (z.toNatClampNeg : Int) := by
    intro z hz
    have hz0 : (0 : Int) ≤ z.toInt := by
      have := Int32.not_lt.mp hz
      simpa using Int32.le_iff_toInt_le.mp this
    show z.toInt = ((z.toInt.toNat : Nat) : Int)
    omega
  unfold j_cpy at h
  split at h
  · rename_i n dp a sp a0 r
    split at h
    · rename_i l0 hl0
      split at h
      · rename_i l1 hl1
        split at h
        · cases h
        · rename_i h1
          split at h
          · cases h
          · rename_i h2
            split at h
            · cases h
            · rename_i h3
              generalize hbe : (Nat.ble 9 a0 && Nat.ble 9 a && Nat.ble (sp.toNatClampNeg + n.toNatClampNeg) l0.length && Nat.ble (dp.toNatClampNeg + n.toNatClampNeg) l1.length && ((l0.drop sp.toNatClampNeg).take n.toNatClampNeg).all j_isi) = bb at h
              cases bb with
              | false => cases h
              | true =>
                simp only [cond_true] at h
                cases h
                simp only [Bool.and_eq_true] at hbe
                obtain ⟨⟨⟨⟨b1, b2⟩, b3⟩, b4⟩, b5⟩ := hbe
                have b1 := Nat.le_of_ble_eq_true b1
                have b2 := Nat.le_of_ble_eq_true b2
                have b3 := Nat.le_of_ble_eq_true b3
                have b4 := Nat.le_of_ble_eq_true b4
                obtain ⟨t0, g1, g2⟩ := j_at_some hl0
                have e0 : t0 = 0 := by simpa using g2
                subst e0
                obtain ⟨t1, g3, g4⟩ := j_at_some hl1
                have e1 : t1 = 0 := by simpa using g4
                subst e1
                have c0 := hH.2.2.2 a0 _ g1
                unfold j_in at c0
                rw [if_neg (by omega)] at c0
                have q0 := (c0.1 rfl).2
                have c1 := hH.2.2.2 a _ g3
                unfold j_in at c1
                rw [if_neg (by omega)] at c1
                have q1 := (c1.1 rfl).2
                have hlo2 : (st'.map fun v => v.category).sum + 40 ≤ R.locals := by
                  simp only [List.map_cons, List.sum_cons] at hlo
                  omega
                show W p l e R s m args below meth c H locs _ _ Q (F0 m pc ls (.int n :: .int dp :: g a :: .int sp :: g a0 :: st'.map (j_rv g)))
                rw [hG.ref b2, hG.ref b1]
                intro T hT X
                obtain ⟨-, k0, hk0, cm0, hkk0⟩ := (hK.2 0 _ (j_tys_at cA (by decide))).1 l0.length (fun j => j_rv g (l0.getD j .null))
                obtain ⟨-, k1, hk1, cm1, hkk1⟩ := (hK.2 0 _ (j_tys_at cA (by decide))).1 l1.length (fun j => j_rv g (l1.getD j .null))
                obtain ⟨vm', X', step⟩ := X.arraycopy hx hown (hts _ hlink) (hts _ hnat) (hts _ hstat) (hts _ hini) (src := ad a0) (dst := ad a) (cs := arrV (cA 0) l0.length (fun j => j_rv g (l0.getD j .null))) (cd := arrV (cA 0) l1.length (fun j => j_rv g (l1.getD j .null))) (srcPos := sp) (destPos := dp) (n := n) (by rw [hT]; exact q0) (by rw [hT]; exact q1)
                  (fun _ h => by cases h) (fun _ h => by cases h) (fun h => by cases h) (fun h => by cases h) hk0 hk1 hkk0 hkk1 (by simp [j_ty, refKind]) h1 h2 h3
                  (by rw [nn sp h1, nn n h3, arrV_size]; omega)
                  (by rw [nn dp h2, nn n h3, arrV_size]; omega)
                  (fun vm₁ _ i hi => by
                    have hlt : sp.toNatClampNeg + i < l0.length := by omega
                    have e : (arrV (cA 0) l0.length (fun j => j_rv g (l0.getD j .null))).slots.getD (sp.toNatClampNeg + i) .null = j_rv g (l0.getD (sp.toNatClampNeg + i) .null) := by
                      rw [Array.getD_eq_getD_getElem?, arrV_read _ _ hlt]
                      rfl
                    have hm : l0[sp.toNatClampNeg + i] ∈ (l0.drop sp.toNatClampNeg).take n.toNatClampNeg := List.mem_of_getElem? (i := i) (by rw [List.getElem?_take, if_pos hi, List.getElem?_drop, List.getElem?_eq_getElem hlt])
                    have hq := List.all_eq_true.mp b5 _ hm
                    have e2 : l0.getD (sp.toNatClampNeg + i) .null = l0[sp.toNatClampNeg + i] := by
                      rw [List.getD_eq_getElem?_getD, List.getElem?_eq_getElem hlt]
                      rfl
                    rw [e, e2]
                    generalize l0[sp.toNatClampNeg + i] = z at hq
                    cases z <;> first | (cases hq; done) | exact ⟨rfl, trivial⟩)
                  (g := F0 m pc ls (.int n :: .int dp :: .ref (ad a) :: .int sp :: .ref (ad a0) :: st'.map (j_rv g))) rfl (hls.trans hml.symm) (rest := st'.map (j_rv g)) rfl (by rw [hb]; exact hd) hf (by show 2 * 0 + _ + _ ≤ _; rw [j_cats hG, show nativeFrameWords "java/lang/System" "arraycopy" 5 = 7 from by decide]; omega)
                rw [j_copied g (cA 0) (cA 0) l0 l1 b3 b4] at X' step
                have hl := (Array.getElem?_eq_some_iff.mp q1).1
                have hheap : ((T.setVm vm').setCell (ad a) (arrV (cA 0) (j_cpl l0 l1 sp.toNatClampNeg dp.toNatClampNeg n.toNatClampNeg).length (fun j => j_rv g ((j_cpl l0 l1 sp.toNatClampNeg dp.toNatClampNeg n.toNatClampNeg).getD j .null)))).heap = H.setIfInBounds (ad a) (arrV (cA 0) (j_cpl l0 l1 sp.toNatClampNeg dp.toNatClampNeg n.toNatClampNeg).length (fun j => j_rv g ((j_cpl l0 l1 sp.toNatClampNeg dp.toNatClampNeg n.toNatClampNeg).getD j .null))) := by rw [← hT]; rfl
                have oq : ∀ q : Nat, q ≠ ad a → (H.setIfInBounds (ad a) (arrV (cA 0) (j_cpl l0 l1 sp.toNatClampNeg dp.toNatClampNeg n.toNatClampNeg).length (fun j => j_rv g ((j_cpl l0 l1 sp.toNatClampNeg dp.toNatClampNeg n.toNatClampNeg).getD j .null))))[q]? = H[q]? := fun q hq => by simp [Array.getElem?_setIfInBounds, Ne.symm hq]
                have hBa : B ≤ ad a := by rw [hG.2.2.1 a b2]; omega
                obtain ⟨t, a1, b1'⟩ := kk _ _ (hH.put hG g3 b2 (by simp) oq (by
                    unfold j_in
                    rw [if_neg (by omega)]
                    exact ⟨fun _ => ⟨by show (0 : Nat) < 6; decide, by simp [Array.getElem?_setIfInBounds, hl]⟩, fun e => by cases e⟩))
                  ⟨by simp; exact hS.1, fun q g1 g2 => by
                    rw [oq q (fun e => g2 (by rw [e]; exact hBa))]
                    exact hS.2.1 q g1 g2, fun q hq => by
                    rcases List.mem_append.mp hq with h | h
                    · exact hS.2.2 q h
                    · obtain ⟨z, -, hz⟩ := List.mem_map.mp h
                      rw [← hz]
                      exact hBa⟩ _ hheap X'
                exact ⟨t, step t a1, b1'⟩
      · cases h
    · cases h
  · cases h
set_option maxHeartbeats 8000000 in
theorem j_run_ok {l : Launch} (hG : j_G g ad B) (hF : ∀ k pc en, F k pc = some en → j_ok yn bt rt mx rc own cl TW zs ks k pc en) (hkd : j_kd cl TW df ∧ cl[99]? = none ∧ ∀ rr : vw_C, cl[4]? = some rr → rr.1 = "HundredWords$Row") (hgood : ∀ x ∈ TW, (x.onTables && x.keeps) = true ∨ ∃ ty, x = .arrayClass ty) :
    ∀ (n : Nat) (p : Program) (e : Env) (R : Room) (s : State) (m : MethodId) (args : Array Value) (below : List Frame) (meth : Method) (c : Code) (H : Heap) (locs : List Loc) (k pc : Nat) (lv : jL) (st : List Value) (hp : List jc) (cells slots fr lo : Nat) (v : Option Value) (hp' : List jc) (c' s' : Nat) (ls : Array Slot),
      jrun F mx rc df n k pc lv st hp cells slots fr lo = some (v, hp', c', s') → j_Cx g ad B D cA cl TW zs ks (own k) (yn k).name (bt k) (mx k) p s m args meth c → meth.sig.returnType = rt k → lv_has ls (mx k) (j_sl g lv) → j_H g ad B D cA cl s H hp → va_S (j_A B) s.heap H locs → c' ≤ R.cells → s' ≤ R.slots → fr ≤ R.frames → lo ≤ R.locals →
      W p l e R s m args below meth c H locs cells slots (MQ below (j_Qc g ad B D cA cl v hp') args s c' s' (j_A B)) (F0 m pc ls (st.map (j_rv g))) := by
  intro n
  induction n with
  | zero => intro p e R s m args below meth c H locs k pc lv st hp cells slots fr lo v hp' c' s' ls h; cases h
  | succ n ih =>
    intro p e R s m args below meth c H locs k pc lv st hp cells slots fr lo v hp' c' s' ls h hC hret hl hH hS hRc hRs hRf hRl
    have h0 := h
    rw [jrun_succ] at h
    unfold jbody at h
    dsimp only at h
    obtain ⟨-, hx, hb, hml, hown, hts, hlocks, hname, hK, hSt, hKs, hBs⟩ := id hC
    cases hen : F k pc with
    | none => rw [hen] at h; cases h
    | some en =>
      rw [hen] at h
      have hok := hF k pc en hen
      obtain ⟨ins, len, l1, l2, val, ty⟩ := en
      have word : ∀ x ∈ Cond.code (yn l1) (bt l1) (mx l1) (rt l1) :: TW, Cond.code (yn l1) (bt l1) (mx l1) (rt l1) ∈ TW → x ∈ TW := fun x hx hc => by
        rcases List.mem_cons.mp hx with e1 | e1
        · rw [e1]; exact hc
        · exact e1
      -- a call, by its three kinds
      have callB : ∀ {i n1 : Nat} {v1 : Option Value} {hp1 : List jc} {c1 s1 : Nat}, j_cal yn bt rt mx own TW l1 → Cond.methodLink (own k) i (yn l1) ∈ TW → (parseMethodDescriptor (yn l1).desc).map (fun d => d.parameters.length) = some n1 → 1 ≤ fr → mx l1 + 19 ≤ lo →
          CallB R s args (own k) i (yn l1) (bt l1) (mx l1) (rt l1) (Cond.code (yn l1) (bt l1) (mx l1) (rt l1) :: TW) { frames := fr - 1, cells := c1, slots := s1, locals := lo - (mx l1 + 19) } c1 s1 n1 := by
        intro i n1 v1 hp1 c1 s1 hcal hlink hpar hfr hlo
        exact ⟨rfl, rfl, by show fr - 1 + 1 ≤ R.frames; omega, by show 8 + (mx l1 + 11) + (lo - (mx l1 + 19)) ≤ R.locals; omega, fun x hx a' U hW => word_at hW (hgood x (word x hx hcal.1)) (hts x (word x hx hcal.1)), List.mem_cons_self, hts _ hcal.1, hts _ hcal.2.1, hcal.2.2.2.1, j_param n1 hpar, hts _ hlink⟩
      have callN : ∀ {i n1 : Nat} {host : String} {v1 : Option Value} {hp1 : List jc} {c1 s1 : Nat}, j_cal yn bt rt mx own TW l1 → (Cond.methodLinkNest (own k) i (yn l1) host).before args s = true → (parseMethodDescriptor (yn l1).desc).map (fun d => d.parameters.length) = some n1 → 1 ≤ fr → mx l1 + 19 ≤ lo →
          va_CN R s args (own k) i (yn l1) host (bt l1) (mx l1) (rt l1) (Cond.code (yn l1) (bt l1) (mx l1) (rt l1) :: TW) { frames := fr - 1, cells := c1, slots := s1, locals := lo - (mx l1 + 19) } c1 s1 n1 := by
        intro i n1 host v1 hp1 c1 s1 hcal hlink hpar hfr hlo
        exact ⟨⟨rfl, rfl, by show fr - 1 + 1 ≤ R.frames; omega, by show 8 + (mx l1 + 11) + (lo - (mx l1 + 19)) ≤ R.locals; omega, fun x hx a' U hW => word_at hW (hgood x (word x hx hcal.1)) (hts x (word x hx hcal.1)), List.mem_cons_self⟩, hts _ hcal.1, hts _ hcal.2.1, hcal.2.2.2.1, j_param n1 hpar, hlink⟩
      have step : ∀ (hj : (match jstep df (mx k) pc (ins, len, l1, l2, val, ty) lv st hp with
          | some (pc', lv', st', hp', dc, ds) => jrun F mx rc df n k pc' lv' st' hp' (cells + dc) (slots + ds) fr lo
          | none => none) = some (v, hp', c', s')), W p l e R s m args below meth c H locs cells slots (MQ below (j_Qc g ad B D cA cl v hp') args s c' s' (j_A B)) (F0 m pc ls (st.map (j_rv g))) := by
        intro hj
        split at hj
        · rename_i pc1 lv1 st1 hp1 dc ds hst
          have hm := jrun_mono _ _ _ _ _ _ _ _ _ _ _ hj
          exact j_step_all hC hkd hok hst hl hH hS (Nat.le_trans hm.1 hRc) (Nat.le_trans hm.2 hRs) (fun H1 locs1 ls1 hl1 hH1 hS1 => ih p e R s m args below meth c H1 locs1 k pc1 lv1 st1 hp1 _ _ fr lo v hp' c' s' ls1 hj hC hret hl1 hH1 hS1 hRc hRs hRf hRl)
        · cases hj
      cases ins with
      | ireturn =>
        obtain ⟨hd, -, rfl, hrt⟩ := hok
        dsimp only at h
        split at h
        · rename_i x
          cases hb1 : j_fit ty (.int x) with
          | false => rw [hb1] at h; cases h
          | true =>
            rw [hb1] at h
            cases h
            have hn := (j_rv_fit g ad B hG hb1).1
            exact W.zret hx hb (hret.trans hrt) hn (fun t ht hW => ⟨rfl, by rw [ht]; exact hH.moved hW.alike, hS.F ht⟩) hS.2.2 hd
        · cases h
      | lreturn =>
        obtain ⟨hd, -, rfl, hrt⟩ := hok
        dsimp only at h
        split at h
        · rename_i x
          cases h
          exact W.lret hx hb (hret.trans hrt) (fun t ht hW => ⟨rfl, by rw [ht]; exact hH.moved hW.alike, hS.F ht⟩) hS.2.2 hd
        · cases h
      | areturn =>
        obtain ⟨hd, -, rfl, tr, hrt⟩ := hok
        dsimp only at h
        split at h
        · rename_i x
          cases hb1 : Nat.ble 9 x with
          | false => rw [hb1] at h; cases h
          | true =>
            rw [hb1] at h
            cases h
            exact W.aret (v := g x) hx hb (hret.trans hrt) (Or.inr ⟨_, rfl⟩) (Or.inr ⟨_, hG.ref (Nat.le_of_ble_eq_true hb1)⟩) (fun t ht hW => ⟨rfl, by rw [ht]; exact hH.moved hW.alike, hS.F ht⟩) hS.2.2 hd
        · cases h
      | return_ =>
        obtain ⟨hd, -, rfl, hrt⟩ := hok
        dsimp only at h
        split at h
        · cases h
          exact W.vret hx hb (hret.trans hrt) (fun t ht hW => ⟨rfl, by rw [ht]; exact hH.moved hW.alike, hS.F ht⟩) hS.2.2 hd
        · cases h
      | invokevirtual i =>
        obtain ⟨hd, -, rfl, hcal, hlink, hinst, hsel, ⟨n1, hn1, hpar⟩, hrc⟩ := hok
        change l2 = n1 + 1 at hn1
        subst hn1
        dsimp only at h
        generalize hbe : (Nat.ble (n1 + 1) st.length && Nat.ble ((st.drop (n1 + 1)).map fun v => v.category).sum 8 && Nat.ble 1 fr && Nat.ble (mx l1 + 19) lo && Nat.ble (lg_sl (st.take (n1 + 1)).reverse).length (mx l1) &&
          (if true = true then (match (st.take (n1 + 1)).reverse with | .ref a :: _ => (match j_nth hp a with | some (false, ci, _) => Nat.beq ci (rc l1) && (Nat.ble 9 a || Nat.beq ci 99) | _ => false) | _ => false) else true)) = bb at h
        cases bb with
        | false => cases h
        | true =>
          simp only [Bool.and_eq_true, if_true] at hbe
          obtain ⟨⟨⟨⟨⟨b1, b2⟩, b3⟩, b4⟩, b5⟩, b6⟩ := hbe
          have b1 := Nat.le_of_ble_eq_true b1
          have b2 := Nat.le_of_ble_eq_true b2
          have b3 := Nat.le_of_ble_eq_true b3
          have b4 := Nat.le_of_ble_eq_true b4
          have b5 := Nat.le_of_ble_eq_true b5
          simp only [cond_true] at h
          split at h
          · rename_i v1 hp1 c1 s1 hrun
            have hm := jrun_mono _ _ _ _ _ _ _ _ _ _ _ h
            have hsp := j_split (g := g) b1
            have hlen := j_take b1
            generalize has : (st.take (n1 + 1)).reverse = as at hrun b5 b6 hsp hlen
            split at b6
            · rename_i a r
              split at b6
              · rename_i ci fs ha
                rw [j_nth_eq] at ha
                rw [Bool.and_eq_true, Bool.or_eq_true] at b6
                have e1 : ci = rc l1 := Nat.eq_of_beq_eq_true b6.1
                have h8 : a ≠ 8 := fun e8 => by
                  rw [e8, hH.2.2.1] at ha
                  have e9 : ci = 98 := by
                    have := Option.some.inj ha
                    exact (congrArg (fun z : jc => z.2.1) this).symm
                  have b62 := b6.2
                  rw [e8, e9] at b62
                  rcases b62 with z | z <;> exact absurd z (by decide)
                have hin := hH.2.2.2 a _ ha
                have hrecv : ∃ cellB : Cell, H[ad a]? = some cellB ∧ cellB.vm.isStatics = false ∧ s.vm.findClass (yn l1).cls = some cellB.cls := by
                  unfold j_in at hin
                  rcases hrc with ⟨z1, z2⟩ | ⟨z1, rr, z2, z3⟩
                  · by_cases hk : a < 9
                    · rw [if_pos hk] at hin
                      obtain ⟨-, q4, -⟩ := hin.2 rfl (e1.trans z1)
                      rw [z2]
                      exact q4
                    · rw [if_neg hk] at hin
                      obtain ⟨rr, g1, -, -⟩ := hin.2 rfl
                      have z : cl[99]? = some rr := by rw [← z1, ← e1]; exact g1
                      rw [hkd.2.1] at z
                      cases z
                  · have hk : ¬ a < 9 := fun z => by
                      rcases b6.2 with y | y
                      · exact absurd (Nat.le_of_ble_eq_true y) (Nat.not_le.mpr z)
                      · exact z1 (e1.symm.trans (Nat.eq_of_beq_eq_true y))
                    rw [if_neg hk] at hin
                    obtain ⟨r2, g1, g2, cell, g3, g4, g5, g6⟩ := hin.2 rfl
                    have hr : r2 = rr := Option.some.inj (g1.symm.trans (by rw [show ci = rc l1 from e1]; exact z2))
                    subst hr
                    obtain ⟨-, hfc, -⟩ := hK.1 ci _ g1
                    exact ⟨cell, g3, by rw [g5]; rfl, by rw [← z3, g4]; exact hfc⟩
                refine j_call (va_runV (As := r.map (j_rv g)) (rest := (st.drop (n1 + 1)).map (j_rv g)) (b := ad a) (C := (yn l1).cls) ⟨hx, hb, hml, hown, hts⟩ (j_met hG n ih hrun b5 hcal) ⟨callB (v1 := v1) (hp1 := hp1) hcal hlink hpar b3 b4, hts _ hinst, hts _ hsel⟩ ⟨j_Pre.blind, hrecv, fun U hU hW => ⟨?_, j_Pre.at hK hSt hKs hBs hH hS hU hW⟩⟩ rfl ?_ hl.1 ?_ (lv_room (by rw [j_cats hG]; exact b2)) hd ⟨Nat.le_trans hm.1 hRc, Nat.le_trans hm.2 hRs⟩) hS (fun H1 locs1 hH1 hS1 => ?_)
                · show (Value.ref (ad a) :: r.map (j_rv g)).toArray = (j_rv g (.ref a) :: r.map (j_rv g)).toArray
                  rw [show j_rv g (.ref a) = .ref (ad a) from hG.1 a h8]
                · simpa using hlen
                · show st.map (j_rv g) = _
                  rw [hsp]
                  simp [show j_rv g (.ref a) = .ref (ad a) from hG.1 a h8]
                · rw [← j_toList]
                  exact ih p e R s m args below meth c H1 locs1 k (pc + 3) lv _ hp1 _ _ fr lo v hp' c' s' ls h hC hret hl hH1 hS1 hRc hRs hRf hRl
              · cases b6
            · cases b6
          · cases h
      | invokestatic i =>
        obtain ⟨hd, -, rfl, hor⟩ := hok
        rcases hor with ⟨z1, hlink, hnat, hstat, hini⟩ | ⟨z1, hcal, hlink, hstat, hpar⟩
        · change l1 = 1001 at z1
          subst z1
          dsimp only at h
          rw [show Nat.ble 1001 1001 = true from rfl] at h
          simp only [cond_true] at h
          cases hb1 : Nat.ble 1 fr && Nat.ble ((st.map fun v => v.category).sum + 40) lo with
          | false => rw [hb1] at h; cases h
          | true =>
            rw [hb1] at h
            simp only [cond_true] at h
            rw [Bool.and_eq_true] at hb1
            have b1 := Nat.le_of_ble_eq_true hb1.1
            have b2 := Nat.le_of_ble_eq_true hb1.2
            split at h
            · rename_i st2 hp2 hn
              have hn : j_cpy st hp = some (st2, hp2) := hn
              exact j_s_copy hC hd hn hlink hnat hstat hini (Nat.le_trans b1 hRf) (Nat.le_trans b2 hRl) hl.1 hH hS (fun H1 locs1 hH1 hS1 => ih p e R s m args below meth c H1 locs1 k (pc + 3) lv st2 hp2 _ _ fr lo v hp' c' s' ls h hC hret hl hH1 hS1 hRc hRs hRf hRl)
            · cases h
        change ¬ 1001 ≤ l1 at z1
        have hb0 : Nat.ble 1001 l1 = false := by
          cases hq : Nat.ble 1001 l1 with
          | false => rfl
          | true => exact absurd (Nat.le_of_ble_eq_true hq) z1
        change (parseMethodDescriptor (yn l1).desc).map (fun d => d.parameters.length) = some l2 at hpar
        dsimp only at h
        rw [hb0] at h
        simp only [cond_false] at h
        generalize hbe : (Nat.ble l2 st.length && Nat.ble ((st.drop l2).map fun v => v.category).sum 8 && Nat.ble 1 fr && Nat.ble (mx l1 + 19) lo && Nat.ble (lg_sl (st.take l2).reverse).length (mx l1) &&
          (if false = true then (match (st.take l2).reverse with | .ref a :: _ => (match j_nth hp a with | some (false, ci, _) => Nat.beq ci (rc l1) && (Nat.ble 9 a || Nat.beq ci 99) | _ => false) | _ => false) else true)) = bb at h
        cases bb with
        | false => cases h
        | true =>
          simp only [Bool.and_eq_true] at hbe
          obtain ⟨⟨⟨⟨⟨b1, b2⟩, b3⟩, b4⟩, b5⟩, -⟩ := hbe
          have b1 := Nat.le_of_ble_eq_true b1
          have b2 := Nat.le_of_ble_eq_true b2
          have b3 := Nat.le_of_ble_eq_true b3
          have b4 := Nat.le_of_ble_eq_true b4
          have b5 := Nat.le_of_ble_eq_true b5
          simp only [cond_true] at h
          split at h
          · rename_i v1 hp1 c1 s1 hrun
            have hm := jrun_mono _ _ _ _ _ _ _ _ _ _ _ h
            have hsp := j_split (g := g) b1
            have hlen := j_take b1
            generalize has : (st.take l2).reverse = as at hrun b5 hsp hlen
            have hgo : ∀ (H1 : Heap) (locs1 : List Loc), j_H g ad B D cA cl s H1 hp1 → va_S (j_A B) s.heap H1 locs1 → W p l e R s m args below meth c H1 locs1 (cells + c1) (slots + s1) (MQ below (j_Qc g ad B D cA cl v hp') args s c' s' (j_A B)) (F0 m (pc + 3) ls ((v1.map (j_rv g)).toList ++ (st.drop l2).map (j_rv g))) := by
              intro H1 locs1 hH1 hS1
              rw [← j_toList]
              exact ih p e R s m args below meth c H1 locs1 k (pc + 3) lv _ hp1 _ _ fr lo v hp' c' s' ls h hC hret hl hH1 hS1 hRc hRs hRf hRl
            have hlen2 : (as.map (j_rv g)).length = l2 := by simpa using hlen
            have hroom : 2 * (F0 m pc ls (st.map (j_rv g))).monitorRoom + (((st.drop l2).map (j_rv g)).map fun v => v.category).sum ≤ 8 := lv_room (by rw [j_cats hG]; exact b2)
            have hpre : PreS s H (va_Pc (as.map (j_rv g)) (j_Pre g ad B D cA cl zs ks hp)) (as.map (j_rv g)) := ⟨j_Pre.blind, fun U hU hW => ⟨rfl, j_Pre.at hK hSt hKs hBs hH hS hU hW⟩⟩
            rcases hlink with hlink | ⟨host, hlink⟩
            · exact j_call (va_runS (As := as.map (j_rv g)) (rest := (st.drop l2).map (j_rv g)) ⟨hx, hb, hml, hown, hts⟩ (j_met hG n ih hrun b5 hcal) ⟨callB (v1 := v1) (hp1 := hp1) hcal hlink hpar b3 b4, hts _ hstat⟩ hpre rfl hlen2 hl.1 hsp hroom hd ⟨Nat.le_trans hm.1 hRc, Nat.le_trans hm.2 hRs⟩) hS hgo
            · exact j_call (va_runSN (As := as.map (j_rv g)) (rest := (st.drop l2).map (j_rv g)) (host := host) ⟨hx, hb, hml, hown, hts⟩ (j_met hG n ih hrun b5 hcal) ⟨callN (v1 := v1) (hp1 := hp1) hcal ((hKs.2 _ hlink).2.use rfl) hpar b3 b4, hts _ hstat, trivial⟩ hpre rfl hlen2 hl.1 hsp hroom hd ⟨Nat.le_trans hm.1 hRc, Nat.le_trans hm.2 hRs⟩) hS hgo
          · cases h
      | invokespecial i =>
        obtain ⟨hd, -, rfl, hok⟩ := hok
        rcases hok with ⟨z1, hlink, hinst, hcode⟩ | ⟨z1, hcal, hlink, hinst, hnm, hrt, n1, hn1, hpar⟩
        · change l1 = 1000 at z1
          subst z1
          dsimp only at h
          rw [show Nat.beq 1000 1000 = true from rfl] at h
          simp only [cond_true] at h
          split at h
          · rename_i a r
            cases hb1 : Nat.ble 9 a && Nat.ble 1 fr && Nat.ble ((r.map fun v => v.category).sum + 12) lo with
            | false => rw [hb1] at h; cases h
            | true =>
              rw [hb1] at h
              rw [Bool.and_eq_true, Bool.and_eq_true] at hb1
              have b1 := Nat.le_of_ble_eq_true hb1.1.1
              have b2 := Nat.le_of_ble_eq_true hb1.1.2
              have b3 := Nat.le_of_ble_eq_true hb1.2
              show W p l e R s m args below meth c H locs _ _ _ (F0 m pc ls (g a :: r.map (j_rv g)))
              rw [hG.ref b1]
              exact W.objInit hx hb hown (hts _ hlink) (hts _ hinst) (hts _ hcode) rfl (hl.1.trans hml.symm) rfl hd (Nat.le_trans b2 hRf) (by rw [j_cats hG]; show 2 * 0 + _ + 12 ≤ _; omega) (ih p e R s m args below meth c H locs k (pc + 3) lv r hp _ _ fr lo v hp' c' s' ls h hC hret hl hH hS hRc hRs hRf hRl)
          · cases h
        · change ¬ l1 = 1000 at z1
          change l2 = n1 + 1 at hn1
          subst hn1
          have hb0 : Nat.beq l1 1000 = false := by
            cases hq : Nat.beq l1 1000 with
            | false => rfl
            | true => exact absurd (Nat.eq_of_beq_eq_true hq) z1
          dsimp only at h
          rw [hb0] at h
          simp only [cond_false] at h
          generalize hbd : j_hd9 (st.drop (n1 + 1 - 1)) = bd at h
          cases bd with
          | false => cases h
          | true =>
            simp only [cond_true] at h
            generalize hbe : (Nat.ble (n1 + 1) st.length && Nat.ble ((st.drop (n1 + 1)).map fun v => v.category).sum 8 && Nat.ble 1 fr && Nat.ble (mx l1 + 19) lo && Nat.ble (lg_sl (st.take (n1 + 1)).reverse).length (mx l1) &&
              (if false = true then (match (st.take (n1 + 1)).reverse with | .ref a :: _ => (match j_nth hp a with | some (false, ci, _) => Nat.beq ci (rc l1) && (Nat.ble 9 a || Nat.beq ci 99) | _ => false) | _ => false) else true)) = bb at h
            cases bb with
            | false => cases h
            | true =>
              simp only [Bool.and_eq_true] at hbe
              obtain ⟨⟨⟨⟨⟨b1, b2⟩, b3⟩, b4⟩, b5⟩, -⟩ := hbe
              have b1 := Nat.le_of_ble_eq_true b1
              have b2 := Nat.le_of_ble_eq_true b2
              have b3 := Nat.le_of_ble_eq_true b3
              have b4 := Nat.le_of_ble_eq_true b4
              have b5 := Nat.le_of_ble_eq_true b5
              simp only [cond_true] at h
              split at h
              · rename_i v1 hp1 c1 s1 hrun
                have hm := jrun_mono _ _ _ _ _ _ _ _ _ _ _ h
                have hsp := j_split (g := g) b1
                have hlen := j_take b1
                unfold j_hd9 at hbd
                split at hbd
                · rename_i a r hdr
                  have h9 := Nat.le_of_ble_eq_true hbd
                  have has := j_head b1 hdr
                  rw [has] at hrun b5 hsp hlen
                  have hcb := callB (i := i) (v1 := v1) (hp1 := hp1) (c1 := c1) (s1 := s1) hcal hlink hpar b3 b4
                  have hmet := j_met (l := l) hG n ih hrun b5 hcal
                  rw [hrt] at hcb hmet
                  refine j_call (va_runI (As := (st.take n1).reverse.map (j_rv g)) (rest := (st.drop (n1 + 1)).map (j_rv g)) (b := ad a) ⟨hx, hb, hml, hown, hts⟩ hmet ⟨hcb, hnm, hts _ hinst⟩ ⟨j_Pre.blind, fun U hU hW => ⟨?_, j_Pre.at hK hSt hKs hBs hH hS hU hW⟩⟩ rfl ?_ hl.1 ?_ (lv_room (by rw [j_cats hG]; exact b2)) hd ⟨Nat.le_trans hm.1 hRc, Nat.le_trans hm.2 hRs⟩) hS (fun H1 locs1 hH1 hS1 => ?_)
                  · show (Value.ref (ad a) :: (st.take n1).reverse.map (j_rv g)).toArray = (j_rv g (.ref a) :: (st.take n1).reverse.map (j_rv g)).toArray
                    rw [show j_rv g (.ref a) = .ref (ad a) from hG.ref h9]
                  · simpa using hlen
                  · show st.map (j_rv g) = _
                    rw [hsp]
                    simp [show j_rv g (.ref a) = .ref (ad a) from hG.ref h9]
                  · rw [← j_toList]
                    exact ih p e R s m args below meth c H1 locs1 k (pc + 3) lv _ hp1 _ _ fr lo v hp' c' s' ls h hC hret hl hH1 hS1 hRc hRs hRf hRl
                · cases hbd
              · cases h
      | _ => exact step h
end JT
