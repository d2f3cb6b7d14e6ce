def FD (hp : List jc) (L M : Int32) : Prop := j_gf hp 9 11 0 = some (.ref 10) ∧ j_gf hp 10 6 0 = some (.ref 11) ∧ j_gf hp 10 6 1 = some (.int L) ∧ j_ob hp 10 6 = true ∧ j_arl hp 11 0 = some 1600 ∧ j_gf hp 117 12 0 = some (.ref 118) ∧ j_gf hp 117 12 1 = some (.int M) ∧ j_ob hp 117 12 = true ∧ j_arl hp 118 0 = some 1600
section FDS
variable {hp : List jc} {L M : Int32}
theorem FD.g1 (h : FD hp L M) : j_gf hp 9 11 0 = some (.ref 10) := h.1
theorem FD.g2 (h : FD hp L M) : j_gf hp 10 6 0 = some (.ref 11) := h.2.1
theorem FD.g3 (h : FD hp L M) : j_gf hp 10 6 1 = some (.int L) := h.2.2.1
theorem FD.o1 (h : FD hp L M) : j_ob hp 10 6 = true := h.2.2.2.1
theorem FD.r1 (h : FD hp L M) : j_arl hp 11 0 = some 1600 := h.2.2.2.2.1
theorem FD.g4 (h : FD hp L M) : j_gf hp 117 12 0 = some (.ref 118) := h.2.2.2.2.2.1
theorem FD.g5 (h : FD hp L M) : j_gf hp 117 12 1 = some (.int M) := h.2.2.2.2.2.2.1
theorem FD.o2 (h : FD hp L M) : j_ob hp 117 12 = true := h.2.2.2.2.2.2.2.1
theorem FD.r2 (h : FD hp L M) : j_arl hp 118 0 = some 1600 := h.2.2.2.2.2.2.2.2
theorem FD.w1 {k : Nat} {v : Value} (h : FD hp L M) : FD (j_stf hp 11 k v) L M := ⟨(j_gf_ne (by decide)).trans h.g1, (j_gf_ne (by decide)).trans h.g2, (j_gf_ne (by decide)).trans h.g3, j_ob_stf.trans h.o1, j_arl_stf.trans h.r1, (j_gf_ne (by decide)).trans h.g4, (j_gf_ne (by decide)).trans h.g5, j_ob_stf.trans h.o2, j_arl_stf.trans h.r2⟩
theorem FD.w2 {x : Int32} (h : FD hp L M) : FD (j_stf hp 10 1 (.int x)) x M := ⟨(j_gf_ne (by decide)).trans h.g1, (j_gf_en (by decide)).trans h.g2, j_gf_at h.g3, j_ob_stf.trans h.o1, j_arl_stf.trans h.r1, (j_gf_ne (by decide)).trans h.g4, (j_gf_ne (by decide)).trans h.g5, j_ob_stf.trans h.o2, j_arl_stf.trans h.r2⟩
theorem FD.w3 {k : Nat} {v : Value} (h : FD hp L M) : FD (j_stf hp 118 k v) L M := ⟨(j_gf_ne (by decide)).trans h.g1, (j_gf_ne (by decide)).trans h.g2, (j_gf_ne (by decide)).trans h.g3, j_ob_stf.trans h.o1, j_arl_stf.trans h.r1, (j_gf_ne (by decide)).trans h.g4, (j_gf_ne (by decide)).trans h.g5, j_ob_stf.trans h.o2, j_arl_stf.trans h.r2⟩
theorem FD.w4 {x : Int32} (h : FD hp L M) : FD (j_stf hp 117 1 (.int x)) L x := ⟨(j_gf_ne (by decide)).trans h.g1, (j_gf_ne (by decide)).trans h.g2, (j_gf_ne (by decide)).trans h.g3, j_ob_stf.trans h.o1, j_arl_stf.trans h.r1, (j_gf_en (by decide)).trans h.g4, j_gf_at h.g5, j_ob_stf.trans h.o2, j_arl_stf.trans h.r2⟩
end FDS
noncomputable def fh_0 (a1 a2 a3 a4 a5 : Int32) : List jc := jh2
theorem fq_00 : FD jh2 0 0 := ⟨by decide +kernel, by decide +kernel, by decide +kernel, by decide +kernel, by decide +kernel, by decide +kernel, by decide +kernel, by decide +kernel, by decide +kernel⟩
theorem fq_0 (a1 a2 a3 a4 a5 : Int32) : FD (fh_0 a1 a2 a3 a4 a5) 0 0 := fq_00
noncomputable def fh_1 (a1 a2 a3 a4 a5 : Int32) : List jc := j_stf (fh_0 a1 a2 a3 a4 a5) 11 0 (.int (((Int32.toUInt32 a1) >>> ((Int32.toUInt32 24) &&& Int32.toUInt32 31)).toInt32 &&& 255))
theorem fq_1 (a1 a2 a3 a4 a5 : Int32) : FD (fh_1 a1 a2 a3 a4 a5) 0 0 := FD.w1 (fq_0 a1 a2 a3 a4 a5)
noncomputable def fh_2 (a1 a2 a3 a4 a5 : Int32) : List jc := j_stf (fh_1 a1 a2 a3 a4 a5) 10 1 (.int 1)
theorem fq_2 (a1 a2 a3 a4 a5 : Int32) : FD (fh_2 a1 a2 a3 a4 a5) 1 0 := FD.w2 (fq_1 a1 a2 a3 a4 a5)
noncomputable def fh_3 (a1 a2 a3 a4 a5 : Int32) : List jc := j_stf (fh_2 a1 a2 a3 a4 a5) 11 1 (.int (((Int32.toUInt32 a1) >>> ((Int32.toUInt32 16) &&& Int32.toUInt32 31)).toInt32 &&& 255))
theorem fq_3 (a1 a2 a3 a4 a5 : Int32) : FD (fh_3 a1 a2 a3 a4 a5) 1 0 := FD.w1 (fq_2 a1 a2 a3 a4 a5)
noncomputable def fh_4 (a1 a2 a3 a4 a5 : Int32) : List jc := j_stf (fh_3 a1 a2 a3 a4 a5) 10 1 (.int 2)
theorem fq_4 (a1 a2 a3 a4 a5 : Int32) : FD (fh_4 a1 a2 a3 a4 a5) 2 0 := FD.w2 (fq_3 a1 a2 a3 a4 a5)
noncomputable def fh_5 (a1 a2 a3 a4 a5 : Int32) : List jc := j_stf (fh_4 a1 a2 a3 a4 a5) 11 2 (.int (((Int32.toUInt32 a1) >>> ((Int32.toUInt32 8) &&& Int32.toUInt32 31)).toInt32 &&& 255))
theorem fq_5 (a1 a2 a3 a4 a5 : Int32) : FD (fh_5 a1 a2 a3 a4 a5) 2 0 := FD.w1 (fq_4 a1 a2 a3 a4 a5)
noncomputable def fh_6 (a1 a2 a3 a4 a5 : Int32) : List jc := j_stf (fh_5 a1 a2 a3 a4 a5) 10 1 (.int 3)
theorem fq_6 (a1 a2 a3 a4 a5 : Int32) : FD (fh_6 a1 a2 a3 a4 a5) 3 0 := FD.w2 (fq_5 a1 a2 a3 a4 a5)
noncomputable def fh_7 (a1 a2 a3 a4 a5 : Int32) : List jc := j_stf (fh_6 a1 a2 a3 a4 a5) 11 3 (.int (((Int32.toUInt32 a1) >>> ((Int32.toUInt32 0) &&& Int32.toUInt32 31)).toInt32 &&& 255))
theorem fq_7 (a1 a2 a3 a4 a5 : Int32) : FD (fh_7 a1 a2 a3 a4 a5) 3 0 := FD.w1 (fq_6 a1 a2 a3 a4 a5)
noncomputable def fh_8 (a1 a2 a3 a4 a5 : Int32) : List jc := j_stf (fh_7 a1 a2 a3 a4 a5) 10 1 (.int 4)
theorem fq_8 (a1 a2 a3 a4 a5 : Int32) : FD (fh_8 a1 a2 a3 a4 a5) 4 0 := FD.w2 (fq_7 a1 a2 a3 a4 a5)
noncomputable def fh_9 (a1 a2 a3 a4 a5 : Int32) : List jc := j_stf (fh_8 a1 a2 a3 a4 a5) 11 4 (.int (((Int32.toUInt32 a2) >>> ((Int32.toUInt32 24) &&& Int32.toUInt32 31)).toInt32 &&& 255))
theorem fq_9 (a1 a2 a3 a4 a5 : Int32) : FD (fh_9 a1 a2 a3 a4 a5) 4 0 := FD.w1 (fq_8 a1 a2 a3 a4 a5)
noncomputable def fh_10 (a1 a2 a3 a4 a5 : Int32) : List jc := j_stf (fh_9 a1 a2 a3 a4 a5) 10 1 (.int 5)
theorem fq_10 (a1 a2 a3 a4 a5 : Int32) : FD (fh_10 a1 a2 a3 a4 a5) 5 0 := FD.w2 (fq_9 a1 a2 a3 a4 a5)
noncomputable def fh_11 (a1 a2 a3 a4 a5 : Int32) : List jc := j_stf (fh_10 a1 a2 a3 a4 a5) 11 5 (.int (((Int32.toUInt32 a2) >>> ((Int32.toUInt32 16) &&& Int32.toUInt32 31)).toInt32 &&& 255))
theorem fq_11 (a1 a2 a3 a4 a5 : Int32) : FD (fh_11 a1 a2 a3 a4 a5) 5 0 := FD.w1 (fq_10 a1 a2 a3 a4 a5)
noncomputable def fh_12 (a1 a2 a3 a4 a5 : Int32) : List jc := j_stf (fh_11 a1 a2 a3 a4 a5) 10 1 (.int 6)
theorem fq_12 (a1 a2 a3 a4 a5 : Int32) : FD (fh_12 a1 a2 a3 a4 a5) 6 0 := FD.w2 (fq_11 a1 a2 a3 a4 a5)
noncomputable def fh_13 (a1 a2 a3 a4 a5 : Int32) : List jc := j_stf (fh_12 a1 a2 a3 a4 a5) 11 6 (.int (((Int32.toUInt32 a2) >>> ((Int32.toUInt32 8) &&& Int32.toUInt32 31)).toInt32 &&& 255))
theorem fq_13 (a1 a2 a3 a4 a5 : Int32) : FD (fh_13 a1 a2 a3 a4 a5) 6 0 := FD.w1 (fq_12 a1 a2 a3 a4 a5)
noncomputable def fh_14 (a1 a2 a3 a4 a5 : Int32) : List jc := j_stf (fh_13 a1 a2 a3 a4 a5) 10 1 (.int 7)
theorem fq_14 (a1 a2 a3 a4 a5 : Int32) : FD (fh_14 a1 a2 a3 a4 a5) 7 0 := FD.w2 (fq_13 a1 a2 a3 a4 a5)
noncomputable def fh_15 (a1 a2 a3 a4 a5 : Int32) : List jc := j_stf (fh_14 a1 a2 a3 a4 a5) 11 7 (.int (((Int32.toUInt32 a2) >>> ((Int32.toUInt32 0) &&& Int32.toUInt32 31)).toInt32 &&& 255))
theorem fq_15 (a1 a2 a3 a4 a5 : Int32) : FD (fh_15 a1 a2 a3 a4 a5) 7 0 := FD.w1 (fq_14 a1 a2 a3 a4 a5)
noncomputable def fh_16 (a1 a2 a3 a4 a5 : Int32) : List jc := j_stf (fh_15 a1 a2 a3 a4 a5) 10 1 (.int 8)
theorem fq_16 (a1 a2 a3 a4 a5 : Int32) : FD (fh_16 a1 a2 a3 a4 a5) 8 0 := FD.w2 (fq_15 a1 a2 a3 a4 a5)
noncomputable def fh_17 (a1 a2 a3 a4 a5 : Int32) : List jc := j_stf (fh_16 a1 a2 a3 a4 a5) 11 8 (.int (((Int32.toUInt32 a3) >>> ((Int32.toUInt32 24) &&& Int32.toUInt32 31)).toInt32 &&& 255))
theorem fq_17 (a1 a2 a3 a4 a5 : Int32) : FD (fh_17 a1 a2 a3 a4 a5) 8 0 := FD.w1 (fq_16 a1 a2 a3 a4 a5)
noncomputable def fh_18 (a1 a2 a3 a4 a5 : Int32) : List jc := j_stf (fh_17 a1 a2 a3 a4 a5) 10 1 (.int 9)
theorem fq_18 (a1 a2 a3 a4 a5 : Int32) : FD (fh_18 a1 a2 a3 a4 a5) 9 0 := FD.w2 (fq_17 a1 a2 a3 a4 a5)
noncomputable def fh_19 (a1 a2 a3 a4 a5 : Int32) : List jc := j_stf (fh_18 a1 a2 a3 a4 a5) 11 9 (.int (((Int32.toUInt32 a3) >>> ((Int32.toUInt32 16) &&& Int32.toUInt32 31)).toInt32 &&& 255))
theorem fq_19 (a1 a2 a3 a4 a5 : Int32) : FD (fh_19 a1 a2 a3 a4 a5) 9 0 := FD.w1 (fq_18 a1 a2 a3 a4 a5)
noncomputable def fh_20 (a1 a2 a3 a4 a5 : Int32) : List jc := j_stf (fh_19 a1 a2 a3 a4 a5) 10 1 (.int 10)
theorem fq_20 (a1 a2 a3 a4 a5 : Int32) : FD (fh_20 a1 a2 a3 a4 a5) 10 0 := FD.w2 (fq_19 a1 a2 a3 a4 a5)
noncomputable def fh_21 (a1 a2 a3 a4 a5 : Int32) : List jc := j_stf (fh_20 a1 a2 a3 a4 a5) 11 10 (.int (((Int32.toUInt32 a3) >>> ((Int32.toUInt32 8) &&& Int32.toUInt32 31)).toInt32 &&& 255))
theorem fq_21 (a1 a2 a3 a4 a5 : Int32) : FD (fh_21 a1 a2 a3 a4 a5) 10 0 := FD.w1 (fq_20 a1 a2 a3 a4 a5)
noncomputable def fh_22 (a1 a2 a3 a4 a5 : Int32) : List jc := j_stf (fh_21 a1 a2 a3 a4 a5) 10 1 (.int 11)
theorem fq_22 (a1 a2 a3 a4 a5 : Int32) : FD (fh_22 a1 a2 a3 a4 a5) 11 0 := FD.w2 (fq_21 a1 a2 a3 a4 a5)
noncomputable def fh_23 (a1 a2 a3 a4 a5 : Int32) : List jc := j_stf (fh_22 a1 a2 a3 a4 a5) 11 11 (.int (((Int32.toUInt32 a3) >>> ((Int32.toUInt32 0) &&& Int32.toUInt32 31)).toInt32 &&& 255))
theorem fq_23 (a1 a2 a3 a4 a5 : Int32) : FD (fh_23 a1 a2 a3 a4 a5) 11 0 := FD.w1 (fq_22 a1 a2 a3 a4 a5)
noncomputable def fh_24 (a1 a2 a3 a4 a5 : Int32) : List jc := j_stf (fh_23 a1 a2 a3 a4 a5) 10 1 (.int 12)
theorem fq_24 (a1 a2 a3 a4 a5 : Int32) : FD (fh_24 a1 a2 a3 a4 a5) 12 0 := FD.w2 (fq_23 a1 a2 a3 a4 a5)
noncomputable def fh_25 (a1 a2 a3 a4 a5 : Int32) : List jc := j_stf (fh_24 a1 a2 a3 a4 a5) 11 12 (.int (((Int32.toUInt32 a4) >>> ((Int32.toUInt32 24) &&& Int32.toUInt32 31)).toInt32 &&& 255))
theorem fq_25 (a1 a2 a3 a4 a5 : Int32) : FD (fh_25 a1 a2 a3 a4 a5) 12 0 := FD.w1 (fq_24 a1 a2 a3 a4 a5)
noncomputable def fh_26 (a1 a2 a3 a4 a5 : Int32) : List jc := j_stf (fh_25 a1 a2 a3 a4 a5) 10 1 (.int 13)
theorem fq_26 (a1 a2 a3 a4 a5 : Int32) : FD (fh_26 a1 a2 a3 a4 a5) 13 0 := FD.w2 (fq_25 a1 a2 a3 a4 a5)
noncomputable def fh_27 (a1 a2 a3 a4 a5 : Int32) : List jc := j_stf (fh_26 a1 a2 a3 a4 a5) 11 13 (.int (((Int32.toUInt32 a4) >>> ((Int32.toUInt32 16) &&& Int32.toUInt32 31)).toInt32 &&& 255))
theorem fq_27 (a1 a2 a3 a4 a5 : Int32) : FD (fh_27 a1 a2 a3 a4 a5) 13 0 := FD.w1 (fq_26 a1 a2 a3 a4 a5)
noncomputable def fh_28 (a1 a2 a3 a4 a5 : Int32) : List jc := j_stf (fh_27 a1 a2 a3 a4 a5) 10 1 (.int 14)
theorem fq_28 (a1 a2 a3 a4 a5 : Int32) : FD (fh_28 a1 a2 a3 a4 a5) 14 0 := FD.w2 (fq_27 a1 a2 a3 a4 a5)
noncomputable def fh_29 (a1 a2 a3 a4 a5 : Int32) : List jc := j_stf (fh_28 a1 a2 a3 a4 a5) 11 14 (.int (((Int32.toUInt32 a4) >>> ((Int32.toUInt32 8) &&& Int32.toUInt32 31)).toInt32 &&& 255))
theorem fq_29 (a1 a2 a3 a4 a5 : Int32) : FD (fh_29 a1 a2 a3 a4 a5) 14 0 := FD.w1 (fq_28 a1 a2 a3 a4 a5)
noncomputable def fh_30 (a1 a2 a3 a4 a5 : Int32) : List jc := j_stf (fh_29 a1 a2 a3 a4 a5) 10 1 (.int 15)
theorem fq_30 (a1 a2 a3 a4 a5 : Int32) : FD (fh_30 a1 a2 a3 a4 a5) 15 0 := FD.w2 (fq_29 a1 a2 a3 a4 a5)
noncomputable def fh_31 (a1 a2 a3 a4 a5 : Int32) : List jc := j_stf (fh_30 a1 a2 a3 a4 a5) 11 15 (.int (((Int32.toUInt32 a4) >>> ((Int32.toUInt32 0) &&& Int32.toUInt32 31)).toInt32 &&& 255))
theorem fq_31 (a1 a2 a3 a4 a5 : Int32) : FD (fh_31 a1 a2 a3 a4 a5) 15 0 := FD.w1 (fq_30 a1 a2 a3 a4 a5)
noncomputable def fh_32 (a1 a2 a3 a4 a5 : Int32) : List jc := j_stf (fh_31 a1 a2 a3 a4 a5) 10 1 (.int 16)
theorem fq_32 (a1 a2 a3 a4 a5 : Int32) : FD (fh_32 a1 a2 a3 a4 a5) 16 0 := FD.w2 (fq_31 a1 a2 a3 a4 a5)
noncomputable def fh_33 (a1 a2 a3 a4 a5 : Int32) : List jc := j_stf (fh_32 a1 a2 a3 a4 a5) 11 16 (.int (((Int32.toUInt32 a5) >>> ((Int32.toUInt32 24) &&& Int32.toUInt32 31)).toInt32 &&& 255))
theorem fq_33 (a1 a2 a3 a4 a5 : Int32) : FD (fh_33 a1 a2 a3 a4 a5) 16 0 := FD.w1 (fq_32 a1 a2 a3 a4 a5)
noncomputable def fh_34 (a1 a2 a3 a4 a5 : Int32) : List jc := j_stf (fh_33 a1 a2 a3 a4 a5) 10 1 (.int 17)
theorem fq_34 (a1 a2 a3 a4 a5 : Int32) : FD (fh_34 a1 a2 a3 a4 a5) 17 0 := FD.w2 (fq_33 a1 a2 a3 a4 a5)
noncomputable def fh_35 (a1 a2 a3 a4 a5 : Int32) : List jc := j_stf (fh_34 a1 a2 a3 a4 a5) 11 17 (.int (((Int32.toUInt32 a5) >>> ((Int32.toUInt32 16) &&& Int32.toUInt32 31)).toInt32 &&& 255))
theorem fq_35 (a1 a2 a3 a4 a5 : Int32) : FD (fh_35 a1 a2 a3 a4 a5) 17 0 := FD.w1 (fq_34 a1 a2 a3 a4 a5)
noncomputable def fh_36 (a1 a2 a3 a4 a5 : Int32) : List jc := j_stf (fh_35 a1 a2 a3 a4 a5) 10 1 (.int 18)
theorem fq_36 (a1 a2 a3 a4 a5 : Int32) : FD (fh_36 a1 a2 a3 a4 a5) 18 0 := FD.w2 (fq_35 a1 a2 a3 a4 a5)
noncomputable def fh_37 (a1 a2 a3 a4 a5 : Int32) : List jc := j_stf (fh_36 a1 a2 a3 a4 a5) 11 18 (.int (((Int32.toUInt32 a5) >>> ((Int32.toUInt32 8) &&& Int32.toUInt32 31)).toInt32 &&& 255))
theorem fq_37 (a1 a2 a3 a4 a5 : Int32) : FD (fh_37 a1 a2 a3 a4 a5) 18 0 := FD.w1 (fq_36 a1 a2 a3 a4 a5)
noncomputable def fh_38 (a1 a2 a3 a4 a5 : Int32) : List jc := j_stf (fh_37 a1 a2 a3 a4 a5) 10 1 (.int 19)
theorem fq_38 (a1 a2 a3 a4 a5 : Int32) : FD (fh_38 a1 a2 a3 a4 a5) 19 0 := FD.w2 (fq_37 a1 a2 a3 a4 a5)
noncomputable def fh_39 (a1 a2 a3 a4 a5 : Int32) : List jc := j_stf (fh_38 a1 a2 a3 a4 a5) 11 19 (.int (((Int32.toUInt32 a5) >>> ((Int32.toUInt32 0) &&& Int32.toUInt32 31)).toInt32 &&& 255))
theorem fq_39 (a1 a2 a3 a4 a5 : Int32) : FD (fh_39 a1 a2 a3 a4 a5) 19 0 := FD.w1 (fq_38 a1 a2 a3 a4 a5)
noncomputable def fh_40 (a1 a2 a3 a4 a5 : Int32) : List jc := j_stf (fh_39 a1 a2 a3 a4 a5) 10 1 (.int 20)
theorem fq_40 (a1 a2 a3 a4 a5 : Int32) : FD (fh_40 a1 a2 a3 a4 a5) 20 0 := FD.w2 (fq_39 a1 a2 a3 a4 a5)
noncomputable def fh_41 (a1 a2 a3 a4 a5 : Int32) : List jc := j_stf (fh_40 a1 a2 a3 a4 a5) 118 0 (.int ((a1 >>> ((24 : Int32) &&& 31)) &&& 255))
theorem fq_41 (a1 a2 a3 a4 a5 : Int32) : FD (fh_41 a1 a2 a3 a4 a5) 20 0 := FD.w3 (fq_40 a1 a2 a3 a4 a5)
noncomputable def fh_42 (a1 a2 a3 a4 a5 : Int32) : List jc := j_stf (fh_41 a1 a2 a3 a4 a5) 117 1 (.int 1)
theorem fq_42 (a1 a2 a3 a4 a5 : Int32) : FD (fh_42 a1 a2 a3 a4 a5) 20 1 := FD.w4 (fq_41 a1 a2 a3 a4 a5)
noncomputable def fh_43 (a1 a2 a3 a4 a5 : Int32) : List jc := j_stf (fh_42 a1 a2 a3 a4 a5) 118 1 (.int ((a1 >>> ((16 : Int32) &&& 31)) &&& 255))
theorem fq_43 (a1 a2 a3 a4 a5 : Int32) : FD (fh_43 a1 a2 a3 a4 a5) 20 1 := FD.w3 (fq_42 a1 a2 a3 a4 a5)
noncomputable def fh_44 (a1 a2 a3 a4 a5 : Int32) : List jc := j_stf (fh_43 a1 a2 a3 a4 a5) 117 1 (.int 2)
theorem fq_44 (a1 a2 a3 a4 a5 : Int32) : FD (fh_44 a1 a2 a3 a4 a5) 20 2 := FD.w4 (fq_43 a1 a2 a3 a4 a5)
noncomputable def fh_45 (a1 a2 a3 a4 a5 : Int32) : List jc := j_stf (fh_44 a1 a2 a3 a4 a5) 118 2 (.int ((a1 >>> ((8 : Int32) &&& 31)) &&& 255))
theorem fq_45 (a1 a2 a3 a4 a5 : Int32) : FD (fh_45 a1 a2 a3 a4 a5) 20 2 := FD.w3 (fq_44 a1 a2 a3 a4 a5)
noncomputable def fh_46 (a1 a2 a3 a4 a5 : Int32) : List jc := j_stf (fh_45 a1 a2 a3 a4 a5) 117 1 (.int 3)
theorem fq_46 (a1 a2 a3 a4 a5 : Int32) : FD (fh_46 a1 a2 a3 a4 a5) 20 3 := FD.w4 (fq_45 a1 a2 a3 a4 a5)
noncomputable def fh_47 (a1 a2 a3 a4 a5 : Int32) : List jc := j_stf (fh_46 a1 a2 a3 a4 a5) 118 3 (.int ((a1 >>> ((0 : Int32) &&& 31)) &&& 255))
theorem fq_47 (a1 a2 a3 a4 a5 : Int32) : FD (fh_47 a1 a2 a3 a4 a5) 20 3 := FD.w3 (fq_46 a1 a2 a3 a4 a5)
noncomputable def fh_48 (a1 a2 a3 a4 a5 : Int32) : List jc := j_stf (fh_47 a1 a2 a3 a4 a5) 117 1 (.int 4)
theorem fq_48 (a1 a2 a3 a4 a5 : Int32) : FD (fh_48 a1 a2 a3 a4 a5) 20 4 := FD.w4 (fq_47 a1 a2 a3 a4 a5)
noncomputable def fh_49 (a1 a2 a3 a4 a5 : Int32) : List jc := j_stf (fh_48 a1 a2 a3 a4 a5) 118 4 (.int ((a2 >>> ((24 : Int32) &&& 31)) &&& 255))
theorem fq_49 (a1 a2 a3 a4 a5 : Int32) : FD (fh_49 a1 a2 a3 a4 a5) 20 4 := FD.w3 (fq_48 a1 a2 a3 a4 a5)
noncomputable def fh_50 (a1 a2 a3 a4 a5 : Int32) : List jc := j_stf (fh_49 a1 a2 a3 a4 a5) 117 1 (.int 5)
theorem fq_50 (a1 a2 a3 a4 a5 : Int32) : FD (fh_50 a1 a2 a3 a4 a5) 20 5 := FD.w4 (fq_49 a1 a2 a3 a4 a5)
noncomputable def fh_51 (a1 a2 a3 a4 a5 : Int32) : List jc := j_stf (fh_50 a1 a2 a3 a4 a5) 118 5 (.int ((a2 >>> ((16 : Int32) &&& 31)) &&& 255))
theorem fq_51 (a1 a2 a3 a4 a5 : Int32) : FD (fh_51 a1 a2 a3 a4 a5) 20 5 := FD.w3 (fq_50 a1 a2 a3 a4 a5)
noncomputable def fh_52 (a1 a2 a3 a4 a5 : Int32) : List jc := j_stf (fh_51 a1 a2 a3 a4 a5) 117 1 (.int 6)
theorem fq_52 (a1 a2 a3 a4 a5 : Int32) : FD (fh_52 a1 a2 a3 a4 a5) 20 6 := FD.w4 (fq_51 a1 a2 a3 a4 a5)
noncomputable def fh_53 (a1 a2 a3 a4 a5 : Int32) : List jc := j_stf (fh_52 a1 a2 a3 a4 a5) 118 6 (.int ((a2 >>> ((8 : Int32) &&& 31)) &&& 255))
theorem fq_53 (a1 a2 a3 a4 a5 : Int32) : FD (fh_53 a1 a2 a3 a4 a5) 20 6 := FD.w3 (fq_52 a1 a2 a3 a4 a5)
noncomputable def fh_54 (a1 a2 a3 a4 a5 : Int32) : List jc := j_stf (fh_53 a1 a2 a3 a4 a5) 117 1 (.int 7)
theorem fq_54 (a1 a2 a3 a4 a5 : Int32) : FD (fh_54 a1 a2 a3 a4 a5) 20 7 := FD.w4 (fq_53 a1 a2 a3 a4 a5)
noncomputable def fh_55 (a1 a2 a3 a4 a5 : Int32) : List jc := j_stf (fh_54 a1 a2 a3 a4 a5) 118 7 (.int ((a2 >>> ((0 : Int32) &&& 31)) &&& 255))
theorem fq_55 (a1 a2 a3 a4 a5 : Int32) : FD (fh_55 a1 a2 a3 a4 a5) 20 7 := FD.w3 (fq_54 a1 a2 a3 a4 a5)
noncomputable def fh_56 (a1 a2 a3 a4 a5 : Int32) : List jc := j_stf (fh_55 a1 a2 a3 a4 a5) 117 1 (.int 8)
theorem fq_56 (a1 a2 a3 a4 a5 : Int32) : FD (fh_56 a1 a2 a3 a4 a5) 20 8 := FD.w4 (fq_55 a1 a2 a3 a4 a5)
noncomputable def fh_57 (a1 a2 a3 a4 a5 : Int32) : List jc := j_stf (fh_56 a1 a2 a3 a4 a5) 118 8 (.int ((a3 >>> ((24 : Int32) &&& 31)) &&& 255))
theorem fq_57 (a1 a2 a3 a4 a5 : Int32) : FD (fh_57 a1 a2 a3 a4 a5) 20 8 := FD.w3 (fq_56 a1 a2 a3 a4 a5)
noncomputable def fh_58 (a1 a2 a3 a4 a5 : Int32) : List jc := j_stf (fh_57 a1 a2 a3 a4 a5) 117 1 (.int 9)
theorem fq_58 (a1 a2 a3 a4 a5 : Int32) : FD (fh_58 a1 a2 a3 a4 a5) 20 9 := FD.w4 (fq_57 a1 a2 a3 a4 a5)
noncomputable def fh_59 (a1 a2 a3 a4 a5 : Int32) : List jc := j_stf (fh_58 a1 a2 a3 a4 a5) 118 9 (.int ((a3 >>> ((16 : Int32) &&& 31)) &&& 255))
theorem fq_59 (a1 a2 a3 a4 a5 : Int32) : FD (fh_59 a1 a2 a3 a4 a5) 20 9 := FD.w3 (fq_58 a1 a2 a3 a4 a5)
noncomputable def fh_60 (a1 a2 a3 a4 a5 : Int32) : List jc := j_stf (fh_59 a1 a2 a3 a4 a5) 117 1 (.int 10)
theorem fq_60 (a1 a2 a3 a4 a5 : Int32) : FD (fh_60 a1 a2 a3 a4 a5) 20 10 := FD.w4 (fq_59 a1 a2 a3 a4 a5)
noncomputable def fh_61 (a1 a2 a3 a4 a5 : Int32) : List jc := j_stf (fh_60 a1 a2 a3 a4 a5) 118 10 (.int ((a3 >>> ((8 : Int32) &&& 31)) &&& 255))
theorem fq_61 (a1 a2 a3 a4 a5 : Int32) : FD (fh_61 a1 a2 a3 a4 a5) 20 10 := FD.w3 (fq_60 a1 a2 a3 a4 a5)
noncomputable def fh_62 (a1 a2 a3 a4 a5 : Int32) : List jc := j_stf (fh_61 a1 a2 a3 a4 a5) 117 1 (.int 11)
theorem fq_62 (a1 a2 a3 a4 a5 : Int32) : FD (fh_62 a1 a2 a3 a4 a5) 20 11 := FD.w4 (fq_61 a1 a2 a3 a4 a5)
noncomputable def fh_63 (a1 a2 a3 a4 a5 : Int32) : List jc := j_stf (fh_62 a1 a2 a3 a4 a5) 118 11 (.int ((a3 >>> ((0 : Int32) &&& 31)) &&& 255))
theorem fq_63 (a1 a2 a3 a4 a5 : Int32) : FD (fh_63 a1 a2 a3 a4 a5) 20 11 := FD.w3 (fq_62 a1 a2 a3 a4 a5)
noncomputable def fh_64 (a1 a2 a3 a4 a5 : Int32) : List jc := j_stf (fh_63 a1 a2 a3 a4 a5) 117 1 (.int 12)
theorem fq_64 (a1 a2 a3 a4 a5 : Int32) : FD (fh_64 a1 a2 a3 a4 a5) 20 12 := FD.w4 (fq_63 a1 a2 a3 a4 a5)
noncomputable def fh_65 (a1 a2 a3 a4 a5 : Int32) : List jc := j_stf (fh_64 a1 a2 a3 a4 a5) 118 12 (.int ((a4 >>> ((24 : Int32) &&& 31)) &&& 255))
theorem fq_65 (a1 a2 a3 a4 a5 : Int32) : FD (fh_65 a1 a2 a3 a4 a5) 20 12 := FD.w3 (fq_64 a1 a2 a3 a4 a5)
noncomputable def fh_66 (a1 a2 a3 a4 a5 : Int32) : List jc := j_stf (fh_65 a1 a2 a3 a4 a5) 117 1 (.int 13)
theorem fq_66 (a1 a2 a3 a4 a5 : Int32) : FD (fh_66 a1 a2 a3 a4 a5) 20 13 := FD.w4 (fq_65 a1 a2 a3 a4 a5)
noncomputable def fh_67 (a1 a2 a3 a4 a5 : Int32) : List jc := j_stf (fh_66 a1 a2 a3 a4 a5) 118 13 (.int ((a4 >>> ((16 : Int32) &&& 31)) &&& 255))
theorem fq_67 (a1 a2 a3 a4 a5 : Int32) : FD (fh_67 a1 a2 a3 a4 a5) 20 13 := FD.w3 (fq_66 a1 a2 a3 a4 a5)
noncomputable def fh_68 (a1 a2 a3 a4 a5 : Int32) : List jc := j_stf (fh_67 a1 a2 a3 a4 a5) 117 1 (.int 14)
theorem fq_68 (a1 a2 a3 a4 a5 : Int32) : FD (fh_68 a1 a2 a3 a4 a5) 20 14 := FD.w4 (fq_67 a1 a2 a3 a4 a5)
noncomputable def fh_69 (a1 a2 a3 a4 a5 : Int32) : List jc := j_stf (fh_68 a1 a2 a3 a4 a5) 118 14 (.int ((a4 >>> ((8 : Int32) &&& 31)) &&& 255))
theorem fq_69 (a1 a2 a3 a4 a5 : Int32) : FD (fh_69 a1 a2 a3 a4 a5) 20 14 := FD.w3 (fq_68 a1 a2 a3 a4 a5)
noncomputable def fh_70 (a1 a2 a3 a4 a5 : Int32) : List jc := j_stf (fh_69 a1 a2 a3 a4 a5) 117 1 (.int 15)
theorem fq_70 (a1 a2 a3 a4 a5 : Int32) : FD (fh_70 a1 a2 a3 a4 a5) 20 15 := FD.w4 (fq_69 a1 a2 a3 a4 a5)
noncomputable def fh_71 (a1 a2 a3 a4 a5 : Int32) : List jc := j_stf (fh_70 a1 a2 a3 a4 a5) 118 15 (.int ((a4 >>> ((0 : Int32) &&& 31)) &&& 255))
theorem fq_71 (a1 a2 a3 a4 a5 : Int32) : FD (fh_71 a1 a2 a3 a4 a5) 20 15 := FD.w3 (fq_70 a1 a2 a3 a4 a5)
noncomputable def fh_72 (a1 a2 a3 a4 a5 : Int32) : List jc := j_stf (fh_71 a1 a2 a3 a4 a5) 117 1 (.int 16)
theorem fq_72 (a1 a2 a3 a4 a5 : Int32) : FD (fh_72 a1 a2 a3 a4 a5) 20 16 := FD.w4 (fq_71 a1 a2 a3 a4 a5)
noncomputable def fh_73 (a1 a2 a3 a4 a5 : Int32) : List jc := j_stf (fh_72 a1 a2 a3 a4 a5) 118 16 (.int ((a5 >>> ((24 : Int32) &&& 31)) &&& 255))
theorem fq_73 (a1 a2 a3 a4 a5 : Int32) : FD (fh_73 a1 a2 a3 a4 a5) 20 16 := FD.w3 (fq_72 a1 a2 a3 a4 a5)
noncomputable def fh_74 (a1 a2 a3 a4 a5 : Int32) : List jc := j_stf (fh_73 a1 a2 a3 a4 a5) 117 1 (.int 17)
theorem fq_74 (a1 a2 a3 a4 a5 : Int32) : FD (fh_74 a1 a2 a3 a4 a5) 20 17 := FD.w4 (fq_73 a1 a2 a3 a4 a5)
noncomputable def fh_75 (a1 a2 a3 a4 a5 : Int32) : List jc := j_stf (fh_74 a1 a2 a3 a4 a5) 118 17 (.int ((a5 >>> ((16 : Int32) &&& 31)) &&& 255))
theorem fq_75 (a1 a2 a3 a4 a5 : Int32) : FD (fh_75 a1 a2 a3 a4 a5) 20 17 := FD.w3 (fq_74 a1 a2 a3 a4 a5)
noncomputable def fh_76 (a1 a2 a3 a4 a5 : Int32) : List jc := j_stf (fh_75 a1 a2 a3 a4 a5) 117 1 (.int 18)
theorem fq_76 (a1 a2 a3 a4 a5 : Int32) : FD (fh_76 a1 a2 a3 a4 a5) 20 18 := FD.w4 (fq_75 a1 a2 a3 a4 a5)
noncomputable def fh_77 (a1 a2 a3 a4 a5 : Int32) : List jc := j_stf (fh_76 a1 a2 a3 a4 a5) 118 18 (.int ((a5 >>> ((8 : Int32) &&& 31)) &&& 255))
theorem fq_77 (a1 a2 a3 a4 a5 : Int32) : FD (fh_77 a1 a2 a3 a4 a5) 20 18 := FD.w3 (fq_76 a1 a2 a3 a4 a5)
noncomputable def fh_78 (a1 a2 a3 a4 a5 : Int32) : List jc := j_stf (fh_77 a1 a2 a3 a4 a5) 117 1 (.int 19)
theorem fq_78 (a1 a2 a3 a4 a5 : Int32) : FD (fh_78 a1 a2 a3 a4 a5) 20 19 := FD.w4 (fq_77 a1 a2 a3 a4 a5)
noncomputable def fh_79 (a1 a2 a3 a4 a5 : Int32) : List jc := j_stf (fh_78 a1 a2 a3 a4 a5) 118 19 (.int ((a5 >>> ((0 : Int32) &&& 31)) &&& 255))
theorem fq_79 (a1 a2 a3 a4 a5 : Int32) : FD (fh_79 a1 a2 a3 a4 a5) 20 19 := FD.w3 (fq_78 a1 a2 a3 a4 a5)
noncomputable def fh_80 (a1 a2 a3 a4 a5 : Int32) : List jc := j_stf (fh_79 a1 a2 a3 a4 a5) 117 1 (.int 20)
theorem fq_80 (a1 a2 a3 a4 a5 : Int32) : FD (fh_80 a1 a2 a3 a4 a5) 20 20 := FD.w4 (fq_79 a1 a2 a3 a4 a5)
set_option maxHeartbeats 8000000 in
set_option maxRecDepth 100000 in
theorem pm_feed (a1 a2 a3 a4 a5 : Int32) : PM 24 212 [.int a1, .int a2, .int a3, .int a4, .int a5] := by
  refine ⟨60000, 60000, 20, (fh_40 a1 a2 a3 a4 a5), (fh_80 a1 a2 a3 a4 a5), ?_, ?_, j_obr_ob (FD.o2 (fq_40 a1 a2 a3 a4 a5))⟩
  · show JR 60000 24 0 _ [] (fh_0 a1 a2 a3 a4 a5) 0 0 500 20000 = _
    refine Eq.trans (jr_s (pc2 := 1) (lv2 := [(0, .ref 9), (1, .int a1), (2, .int a2), (3, .int a3), (4, .int a4), (5, .int a5)]) (st2 := [.ref 9]) jF_24_0 rfl rfl) ?_
    refine Eq.trans (jr_gf (v := .ref 10) jF_24_1 (FD.g1 (fq_0 a1 a2 a3 a4 a5))) ?_
    refine Eq.trans (jr_gf (v := .int 0) jF_24_4 (FD.g3 (fq_0 a1 a2 a3 a4 a5))) ?_
    refine Eq.trans (jr_s (pc2 := 9) (lv2 := [(0, .ref 9), (1, .int a1), (2, .int a2), (3, .int a3), (4, .int a4), (5, .int a5)]) (st2 := [.int 20, .int 0]) jF_24_7 rfl rfl) ?_
    refine Eq.trans (jr_s (pc2 := 10) (lv2 := [(0, .ref 9), (1, .int a1), (2, .int a2), (3, .int a3), (4, .int a4), (5, .int a5)]) (st2 := [.int 20]) jF_24_9 rfl rfl) ?_
    refine Eq.trans (jr_s (pc2 := 13) (lv2 := [(0, .ref 9), (1, .int a1), (2, .int a2), (3, .int a3), (4, .int a4), (5, .int a5)]) (st2 := [.int 1600, .int 20]) jF_24_10 rfl rfl) ?_
    refine Eq.trans (jr_ic1 jF_24_13 (by decide +kernel)) ?_
    refine Eq.trans (jr_s (pc2 := 23) (lv2 := [(0, .ref 9), (1, .int a1), (2, .int a2), (3, .int a3), (4, .int a4), (5, .int a5)]) (st2 := [.ref 9]) jF_24_22 rfl rfl) ?_
    refine Eq.trans (jr_gf (v := .ref 10) jF_24_23 (FD.g1 (fq_0 a1 a2 a3 a4 a5))) ?_
    refine Eq.trans (jr_s (pc2 := 27) (lv2 := [(0, .ref 9), (1, .int a1), (2, .int a2), (3, .int a3), (4, .int a4), (5, .int a5)]) (st2 := [.int a1, .ref 10]) jF_24_26 rfl rfl) ?_
    refine Eq.trans (jr_cV (a := 10) (as := [.int a1]) (rest := []) (v := none) (hp2 := (fh_8 a1 a2 a3 a4 a5)) (fr2 := 499) (lo2 := 19978) jF_24_27 (j_obr_ob (FD.o1 (fq_0 a1 a2 a3 a4 a5))) rfl (show j_cnd 500 20000 499 19978 3 _ _ = true from rfl) ?_) ?_
    · refine Eq.trans (jr_s (pc2 := 2) (lv2 := [(0, .ref 10), (1, .int a1)]) (st2 := [.int 24]) jF_26_0 rfl rfl) ?_
      refine Eq.trans (jr_s (pc2 := 3) (lv2 := [(2, .int 24), (0, .ref 10), (1, .int a1)]) (st2 := []) jF_26_2 rfl rfl) ?_
      refine Eq.trans (jr_s (pc2 := 4) (lv2 := [(2, .int 24), (0, .ref 10), (1, .int a1)]) (st2 := [.int 24]) jF_26_3 rfl rfl) ?_
      refine Eq.trans (jr_if0 jF_26_4 (by decide +kernel)) ?_
      refine Eq.trans (jr_s (pc2 := 8) (lv2 := [(2, .int 24), (0, .ref 10), (1, .int a1)]) (st2 := [.ref 10]) jF_26_7 rfl rfl) ?_
      refine Eq.trans (jr_gf (v := .int 0) jF_26_8 (FD.g3 (fq_0 a1 a2 a3 a4 a5))) ?_
      refine Eq.trans (jr_s (pc2 := 14) (lv2 := [(2, .int 24), (0, .ref 10), (1, .int a1)]) (st2 := [.int 1600, .int 0]) jF_26_11 rfl rfl) ?_
      refine Eq.trans (jr_ic0 jF_26_14 (by decide +kernel)) ?_
      refine Eq.trans (jr_s (pc2 := 18) (lv2 := [(2, .int 24), (0, .ref 10), (1, .int a1)]) (st2 := [.ref 10]) jF_26_17 rfl rfl) ?_
      refine Eq.trans (jr_gf (v := .ref 11) jF_26_18 (FD.g2 (fq_0 a1 a2 a3 a4 a5))) ?_
      refine Eq.trans (jr_s (pc2 := 22) (lv2 := [(2, .int 24), (0, .ref 10), (1, .int a1)]) (st2 := [.ref 10, .ref 11]) jF_26_21 rfl rfl) ?_
      refine Eq.trans (jr_gf (v := .int 0) jF_26_22 (FD.g3 (fq_0 a1 a2 a3 a4 a5))) ?_
      refine Eq.trans (jr_s (pc2 := 26) (lv2 := [(2, .int 24), (0, .ref 10), (1, .int a1)]) (st2 := [.int a1, .int 0, .ref 11]) jF_26_25 rfl rfl) ?_
      refine Eq.trans (jr_s (pc2 := 27) (lv2 := [(2, .int 24), (0, .ref 10), (1, .int a1)]) (st2 := [.int 24, .int a1, .int 0, .ref 11]) jF_26_26 rfl rfl) ?_
      refine Eq.trans (jr_s (pc2 := 28) (lv2 := [(2, .int 24), (0, .ref 10), (1, .int a1)]) (st2 := [.int ((Int32.toUInt32 a1) >>> ((Int32.toUInt32 24) &&& Int32.toUInt32 31)).toInt32, .int 0, .ref 11]) jF_26_27 rfl rfl) ?_
      refine Eq.trans (jr_s (pc2 := 31) (lv2 := [(2, .int 24), (0, .ref 10), (1, .int a1)]) (st2 := [.int 255, .int ((Int32.toUInt32 a1) >>> ((Int32.toUInt32 24) &&& Int32.toUInt32 31)).toInt32, .int 0, .ref 11]) jF_26_28 rfl rfl) ?_
      refine Eq.trans (jr_s (pc2 := 32) (lv2 := [(2, .int 24), (0, .ref 10), (1, .int a1)]) (st2 := [.int (((Int32.toUInt32 a1) >>> ((Int32.toUInt32 24) &&& Int32.toUInt32 31)).toInt32 &&& 255), .int 0, .ref 11]) jF_26_31 rfl rfl) ?_
      refine Eq.trans (jr_sti (q := 0) jF_26_32 (j_aok_arl (FD.r1 (fq_0 a1 a2 a3 a4 a5)) (by decide)) (by decide +kernel)) ?_
      refine Eq.trans (jr_s (pc2 := 34) (lv2 := [(2, .int 24), (0, .ref 10), (1, .int a1)]) (st2 := [.ref 10]) jF_26_33 rfl rfl) ?_
      refine Eq.trans (jr_s (pc2 := 35) (lv2 := [(2, .int 24), (0, .ref 10), (1, .int a1)]) (st2 := [.ref 10, .ref 10]) jF_26_34 rfl rfl) ?_
      refine Eq.trans (jr_gf (v := .int 0) jF_26_35 (FD.g3 (fq_1 a1 a2 a3 a4 a5))) ?_
      refine Eq.trans (jr_s (pc2 := 39) (lv2 := [(2, .int 24), (0, .ref 10), (1, .int a1)]) (st2 := [.int 1, .int 0, .ref 10]) jF_26_38 rfl rfl) ?_
      refine Eq.trans (jr_s (pc2 := 40) (lv2 := [(2, .int 24), (0, .ref 10), (1, .int a1)]) (st2 := [.int 1, .ref 10]) jF_26_39 rfl rfl) ?_
      refine Eq.trans (jr_pf jF_26_40 (FD.o1 (fq_1 a1 a2 a3 a4 a5)) rfl) ?_
      refine Eq.trans (jr_s (pc2 := 46) (lv2 := [(2, .int 16), (0, .ref 10), (1, .int a1)]) (st2 := []) jF_26_43 rfl rfl) ?_
      refine Eq.trans (jr_s (pc2 := 3) (lv2 := [(2, .int 16), (0, .ref 10), (1, .int a1)]) (st2 := []) jF_26_46 rfl rfl) ?_
      refine Eq.trans (jr_s (pc2 := 4) (lv2 := [(2, .int 16), (0, .ref 10), (1, .int a1)]) (st2 := [.int 16]) jF_26_3 rfl rfl) ?_
      refine Eq.trans (jr_if0 jF_26_4 (by decide +kernel)) ?_
      refine Eq.trans (jr_s (pc2 := 8) (lv2 := [(2, .int 16), (0, .ref 10), (1, .int a1)]) (st2 := [.ref 10]) jF_26_7 rfl rfl) ?_
      refine Eq.trans (jr_gf (v := .int 1) jF_26_8 (FD.g3 (fq_2 a1 a2 a3 a4 a5))) ?_
      refine Eq.trans (jr_s (pc2 := 14) (lv2 := [(2, .int 16), (0, .ref 10), (1, .int a1)]) (st2 := [.int 1600, .int 1]) jF_26_11 rfl rfl) ?_
      refine Eq.trans (jr_ic0 jF_26_14 (by decide +kernel)) ?_
      refine Eq.trans (jr_s (pc2 := 18) (lv2 := [(2, .int 16), (0, .ref 10), (1, .int a1)]) (st2 := [.ref 10]) jF_26_17 rfl rfl) ?_
      refine Eq.trans (jr_gf (v := .ref 11) jF_26_18 (FD.g2 (fq_2 a1 a2 a3 a4 a5))) ?_
      refine Eq.trans (jr_s (pc2 := 22) (lv2 := [(2, .int 16), (0, .ref 10), (1, .int a1)]) (st2 := [.ref 10, .ref 11]) jF_26_21 rfl rfl) ?_
      refine Eq.trans (jr_gf (v := .int 1) jF_26_22 (FD.g3 (fq_2 a1 a2 a3 a4 a5))) ?_
      refine Eq.trans (jr_s (pc2 := 26) (lv2 := [(2, .int 16), (0, .ref 10), (1, .int a1)]) (st2 := [.int a1, .int 1, .ref 11]) jF_26_25 rfl rfl) ?_
      refine Eq.trans (jr_s (pc2 := 27) (lv2 := [(2, .int 16), (0, .ref 10), (1, .int a1)]) (st2 := [.int 16, .int a1, .int 1, .ref 11]) jF_26_26 rfl rfl) ?_
      refine Eq.trans (jr_s (pc2 := 28) (lv2 := [(2, .int 16), (0, .ref 10), (1, .int a1)]) (st2 := [.int ((Int32.toUInt32 a1) >>> ((Int32.toUInt32 16) &&& Int32.toUInt32 31)).toInt32, .int 1, .ref 11]) jF_26_27 rfl rfl) ?_
      refine Eq.trans (jr_s (pc2 := 31) (lv2 := [(2, .int 16), (0, .ref 10), (1, .int a1)]) (st2 := [.int 255, .int ((Int32.toUInt32 a1) >>> ((Int32.toUInt32 16) &&& Int32.toUInt32 31)).toInt32, .int 1, .ref 11]) jF_26_28 rfl rfl) ?_
      refine Eq.trans (jr_s (pc2 := 32) (lv2 := [(2, .int 16), (0, .ref 10), (1, .int a1)]) (st2 := [.int (((Int32.toUInt32 a1) >>> ((Int32.toUInt32 16) &&& Int32.toUInt32 31)).toInt32 &&& 255), .int 1, .ref 11]) jF_26_31 rfl rfl) ?_
      refine Eq.trans (jr_sti (q := 1) jF_26_32 (j_aok_arl (FD.r1 (fq_2 a1 a2 a3 a4 a5)) (by decide)) (by decide +kernel)) ?_
      refine Eq.trans (jr_s (pc2 := 34) (lv2 := [(2, .int 16), (0, .ref 10), (1, .int a1)]) (st2 := [.ref 10]) jF_26_33 rfl rfl) ?_
      refine Eq.trans (jr_s (pc2 := 35) (lv2 := [(2, .int 16), (0, .ref 10), (1, .int a1)]) (st2 := [.ref 10, .ref 10]) jF_26_34 rfl rfl) ?_
      refine Eq.trans (jr_gf (v := .int 1) jF_26_35 (FD.g3 (fq_3 a1 a2 a3 a4 a5))) ?_
      refine Eq.trans (jr_s (pc2 := 39) (lv2 := [(2, .int 16), (0, .ref 10), (1, .int a1)]) (st2 := [.int 1, .int 1, .ref 10]) jF_26_38 rfl rfl) ?_
      refine Eq.trans (jr_s (pc2 := 40) (lv2 := [(2, .int 16), (0, .ref 10), (1, .int a1)]) (st2 := [.int 2, .ref 10]) jF_26_39 rfl rfl) ?_
      refine Eq.trans (jr_pf jF_26_40 (FD.o1 (fq_3 a1 a2 a3 a4 a5)) rfl) ?_
      refine Eq.trans (jr_s (pc2 := 46) (lv2 := [(2, .int 8), (0, .ref 10), (1, .int a1)]) (st2 := []) jF_26_43 rfl rfl) ?_
      refine Eq.trans (jr_s (pc2 := 3) (lv2 := [(2, .int 8), (0, .ref 10), (1, .int a1)]) (st2 := []) jF_26_46 rfl rfl) ?_
      refine Eq.trans (jr_s (pc2 := 4) (lv2 := [(2, .int 8), (0, .ref 10), (1, .int a1)]) (st2 := [.int 8]) jF_26_3 rfl rfl) ?_
      refine Eq.trans (jr_if0 jF_26_4 (by decide +kernel)) ?_
      refine Eq.trans (jr_s (pc2 := 8) (lv2 := [(2, .int 8), (0, .ref 10), (1, .int a1)]) (st2 := [.ref 10]) jF_26_7 rfl rfl) ?_
      refine Eq.trans (jr_gf (v := .int 2) jF_26_8 (FD.g3 (fq_4 a1 a2 a3 a4 a5))) ?_
      refine Eq.trans (jr_s (pc2 := 14) (lv2 := [(2, .int 8), (0, .ref 10), (1, .int a1)]) (st2 := [.int 1600, .int 2]) jF_26_11 rfl rfl) ?_
      refine Eq.trans (jr_ic0 jF_26_14 (by decide +kernel)) ?_
      refine Eq.trans (jr_s (pc2 := 18) (lv2 := [(2, .int 8), (0, .ref 10), (1, .int a1)]) (st2 := [.ref 10]) jF_26_17 rfl rfl) ?_
      refine Eq.trans (jr_gf (v := .ref 11) jF_26_18 (FD.g2 (fq_4 a1 a2 a3 a4 a5))) ?_
      refine Eq.trans (jr_s (pc2 := 22) (lv2 := [(2, .int 8), (0, .ref 10), (1, .int a1)]) (st2 := [.ref 10, .ref 11]) jF_26_21 rfl rfl) ?_
      refine Eq.trans (jr_gf (v := .int 2) jF_26_22 (FD.g3 (fq_4 a1 a2 a3 a4 a5))) ?_
      refine Eq.trans (jr_s (pc2 := 26) (lv2 := [(2, .int 8), (0, .ref 10), (1, .int a1)]) (st2 := [.int a1, .int 2, .ref 11]) jF_26_25 rfl rfl) ?_
      refine Eq.trans (jr_s (pc2 := 27) (lv2 := [(2, .int 8), (0, .ref 10), (1, .int a1)]) (st2 := [.int 8, .int a1, .int 2, .ref 11]) jF_26_26 rfl rfl) ?_
      refine Eq.trans (jr_s (pc2 := 28) (lv2 := [(2, .int 8), (0, .ref 10), (1, .int a1)]) (st2 := [.int ((Int32.toUInt32 a1) >>> ((Int32.toUInt32 8) &&& Int32.toUInt32 31)).toInt32, .int 2, .ref 11]) jF_26_27 rfl rfl) ?_
      refine Eq.trans (jr_s (pc2 := 31) (lv2 := [(2, .int 8), (0, .ref 10), (1, .int a1)]) (st2 := [.int 255, .int ((Int32.toUInt32 a1) >>> ((Int32.toUInt32 8) &&& Int32.toUInt32 31)).toInt32, .int 2, .ref 11]) jF_26_28 rfl rfl) ?_
      refine Eq.trans (jr_s (pc2 := 32) (lv2 := [(2, .int 8), (0, .ref 10), (1, .int a1)]) (st2 := [.int (((Int32.toUInt32 a1) >>> ((Int32.toUInt32 8) &&& Int32.toUInt32 31)).toInt32 &&& 255), .int 2, .ref 11]) jF_26_31 rfl rfl) ?_
      refine Eq.trans (jr_sti (q := 2) jF_26_32 (j_aok_arl (FD.r1 (fq_4 a1 a2 a3 a4 a5)) (by decide)) (by decide +kernel)) ?_
      refine Eq.trans (jr_s (pc2 := 34) (lv2 := [(2, .int 8), (0, .ref 10), (1, .int a1)]) (st2 := [.ref 10]) jF_26_33 rfl rfl) ?_
      refine Eq.trans (jr_s (pc2 := 35) (lv2 := [(2, .int 8), (0, .ref 10), (1, .int a1)]) (st2 := [.ref 10, .ref 10]) jF_26_34 rfl rfl) ?_
      refine Eq.trans (jr_gf (v := .int 2) jF_26_35 (FD.g3 (fq_5 a1 a2 a3 a4 a5))) ?_
      refine Eq.trans (jr_s (pc2 := 39) (lv2 := [(2, .int 8), (0, .ref 10), (1, .int a1)]) (st2 := [.int 1, .int 2, .ref 10]) jF_26_38 rfl rfl) ?_
      refine Eq.trans (jr_s (pc2 := 40) (lv2 := [(2, .int 8), (0, .ref 10), (1, .int a1)]) (st2 := [.int 3, .ref 10]) jF_26_39 rfl rfl) ?_
      refine Eq.trans (jr_pf jF_26_40 (FD.o1 (fq_5 a1 a2 a3 a4 a5)) rfl) ?_
      refine Eq.trans (jr_s (pc2 := 46) (lv2 := [(2, .int 0), (0, .ref 10), (1, .int a1)]) (st2 := []) jF_26_43 rfl rfl) ?_
      refine Eq.trans (jr_s (pc2 := 3) (lv2 := [(2, .int 0), (0, .ref 10), (1, .int a1)]) (st2 := []) jF_26_46 rfl rfl) ?_
      refine Eq.trans (jr_s (pc2 := 4) (lv2 := [(2, .int 0), (0, .ref 10), (1, .int a1)]) (st2 := [.int 0]) jF_26_3 rfl rfl) ?_
      refine Eq.trans (jr_if0 jF_26_4 (by decide +kernel)) ?_
      refine Eq.trans (jr_s (pc2 := 8) (lv2 := [(2, .int 0), (0, .ref 10), (1, .int a1)]) (st2 := [.ref 10]) jF_26_7 rfl rfl) ?_
      refine Eq.trans (jr_gf (v := .int 3) jF_26_8 (FD.g3 (fq_6 a1 a2 a3 a4 a5))) ?_
      refine Eq.trans (jr_s (pc2 := 14) (lv2 := [(2, .int 0), (0, .ref 10), (1, .int a1)]) (st2 := [.int 1600, .int 3]) jF_26_11 rfl rfl) ?_
      refine Eq.trans (jr_ic0 jF_26_14 (by decide +kernel)) ?_
      refine Eq.trans (jr_s (pc2 := 18) (lv2 := [(2, .int 0), (0, .ref 10), (1, .int a1)]) (st2 := [.ref 10]) jF_26_17 rfl rfl) ?_
      refine Eq.trans (jr_gf (v := .ref 11) jF_26_18 (FD.g2 (fq_6 a1 a2 a3 a4 a5))) ?_
      refine Eq.trans (jr_s (pc2 := 22) (lv2 := [(2, .int 0), (0, .ref 10), (1, .int a1)]) (st2 := [.ref 10, .ref 11]) jF_26_21 rfl rfl) ?_
      refine Eq.trans (jr_gf (v := .int 3) jF_26_22 (FD.g3 (fq_6 a1 a2 a3 a4 a5))) ?_
      refine Eq.trans (jr_s (pc2 := 26) (lv2 := [(2, .int 0), (0, .ref 10), (1, .int a1)]) (st2 := [.int a1, .int 3, .ref 11]) jF_26_25 rfl rfl) ?_
      refine Eq.trans (jr_s (pc2 := 27) (lv2 := [(2, .int 0), (0, .ref 10), (1, .int a1)]) (st2 := [.int 0, .int a1, .int 3, .ref 11]) jF_26_26 rfl rfl) ?_
      refine Eq.trans (jr_s (pc2 := 28) (lv2 := [(2, .int 0), (0, .ref 10), (1, .int a1)]) (st2 := [.int ((Int32.toUInt32 a1) >>> ((Int32.toUInt32 0) &&& Int32.toUInt32 31)).toInt32, .int 3, .ref 11]) jF_26_27 rfl rfl) ?_
      refine Eq.trans (jr_s (pc2 := 31) (lv2 := [(2, .int 0), (0, .ref 10), (1, .int a1)]) (st2 := [.int 255, .int ((Int32.toUInt32 a1) >>> ((Int32.toUInt32 0) &&& Int32.toUInt32 31)).toInt32, .int 3, .ref 11]) jF_26_28 rfl rfl) ?_
      refine Eq.trans (jr_s (pc2 := 32) (lv2 := [(2, .int 0), (0, .ref 10), (1, .int a1)]) (st2 := [.int (((Int32.toUInt32 a1) >>> ((Int32.toUInt32 0) &&& Int32.toUInt32 31)).toInt32 &&& 255), .int 3, .ref 11]) jF_26_31 rfl rfl) ?_
      refine Eq.trans (jr_sti (q := 3) jF_26_32 (j_aok_arl (FD.r1 (fq_6 a1 a2 a3 a4 a5)) (by decide)) (by decide +kernel)) ?_
      refine Eq.trans (jr_s (pc2 := 34) (lv2 := [(2, .int 0), (0, .ref 10), (1, .int a1)]) (st2 := [.ref 10]) jF_26_33 rfl rfl) ?_
      refine Eq.trans (jr_s (pc2 := 35) (lv2 := [(2, .int 0), (0, .ref 10), (1, .int a1)]) (st2 := [.ref 10, .ref 10]) jF_26_34 rfl rfl) ?_
      refine Eq.trans (jr_gf (v := .int 3) jF_26_35 (FD.g3 (fq_7 a1 a2 a3 a4 a5))) ?_
      refine Eq.trans (jr_s (pc2 := 39) (lv2 := [(2, .int 0), (0, .ref 10), (1, .int a1)]) (st2 := [.int 1, .int 3, .ref 10]) jF_26_38 rfl rfl) ?_
      refine Eq.trans (jr_s (pc2 := 40) (lv2 := [(2, .int 0), (0, .ref 10), (1, .int a1)]) (st2 := [.int 4, .ref 10]) jF_26_39 rfl rfl) ?_
      refine Eq.trans (jr_pf jF_26_40 (FD.o1 (fq_7 a1 a2 a3 a4 a5)) rfl) ?_
      refine Eq.trans (jr_s (pc2 := 46) (lv2 := [(2, .int (-8)), (0, .ref 10), (1, .int a1)]) (st2 := []) jF_26_43 rfl rfl) ?_
      refine Eq.trans (jr_s (pc2 := 3) (lv2 := [(2, .int (-8)), (0, .ref 10), (1, .int a1)]) (st2 := []) jF_26_46 rfl rfl) ?_
      refine Eq.trans (jr_s (pc2 := 4) (lv2 := [(2, .int (-8)), (0, .ref 10), (1, .int a1)]) (st2 := [.int (-8)]) jF_26_3 rfl rfl) ?_
      refine Eq.trans (jr_if1 jF_26_4 (by decide +kernel)) ?_
      exact jr_rr jF_26_49
    refine Eq.trans (jr_s (pc2 := 31) (lv2 := [(0, .ref 9), (1, .int a1), (2, .int a2), (3, .int a3), (4, .int a4), (5, .int a5)]) (st2 := [.ref 9]) jF_24_30 rfl rfl) ?_
    refine Eq.trans (jr_gf (v := .ref 10) jF_24_31 (FD.g1 (fq_8 a1 a2 a3 a4 a5))) ?_
    refine Eq.trans (jr_s (pc2 := 35) (lv2 := [(0, .ref 9), (1, .int a1), (2, .int a2), (3, .int a3), (4, .int a4), (5, .int a5)]) (st2 := [.int a2, .ref 10]) jF_24_34 rfl rfl) ?_
    refine Eq.trans (jr_cV (a := 10) (as := [.int a2]) (rest := []) (v := none) (hp2 := (fh_16 a1 a2 a3 a4 a5)) (fr2 := 499) (lo2 := 19978) jF_24_35 (j_obr_ob (FD.o1 (fq_8 a1 a2 a3 a4 a5))) rfl (show j_cnd 500 20000 499 19978 3 _ _ = true from rfl) ?_) ?_
    · refine Eq.trans (jr_s (pc2 := 2) (lv2 := [(0, .ref 10), (1, .int a2)]) (st2 := [.int 24]) jF_26_0 rfl rfl) ?_
      refine Eq.trans (jr_s (pc2 := 3) (lv2 := [(2, .int 24), (0, .ref 10), (1, .int a2)]) (st2 := []) jF_26_2 rfl rfl) ?_
      refine Eq.trans (jr_s (pc2 := 4) (lv2 := [(2, .int 24), (0, .ref 10), (1, .int a2)]) (st2 := [.int 24]) jF_26_3 rfl rfl) ?_
      refine Eq.trans (jr_if0 jF_26_4 (by decide +kernel)) ?_
      refine Eq.trans (jr_s (pc2 := 8) (lv2 := [(2, .int 24), (0, .ref 10), (1, .int a2)]) (st2 := [.ref 10]) jF_26_7 rfl rfl) ?_
      refine Eq.trans (jr_gf (v := .int 4) jF_26_8 (FD.g3 (fq_8 a1 a2 a3 a4 a5))) ?_
      refine Eq.trans (jr_s (pc2 := 14) (lv2 := [(2, .int 24), (0, .ref 10), (1, .int a2)]) (st2 := [.int 1600, .int 4]) jF_26_11 rfl rfl) ?_
      refine Eq.trans (jr_ic0 jF_26_14 (by decide +kernel)) ?_
      refine Eq.trans (jr_s (pc2 := 18) (lv2 := [(2, .int 24), (0, .ref 10), (1, .int a2)]) (st2 := [.ref 10]) jF_26_17 rfl rfl) ?_
      refine Eq.trans (jr_gf (v := .ref 11) jF_26_18 (FD.g2 (fq_8 a1 a2 a3 a4 a5))) ?_
      refine Eq.trans (jr_s (pc2 := 22) (lv2 := [(2, .int 24), (0, .ref 10), (1, .int a2)]) (st2 := [.ref 10, .ref 11]) jF_26_21 rfl rfl) ?_
      refine Eq.trans (jr_gf (v := .int 4) jF_26_22 (FD.g3 (fq_8 a1 a2 a3 a4 a5))) ?_
      refine Eq.trans (jr_s (pc2 := 26) (lv2 := [(2, .int 24), (0, .ref 10), (1, .int a2)]) (st2 := [.int a2, .int 4, .ref 11]) jF_26_25 rfl rfl) ?_
      refine Eq.trans (jr_s (pc2 := 27) (lv2 := [(2, .int 24), (0, .ref 10), (1, .int a2)]) (st2 := [.int 24, .int a2, .int 4, .ref 11]) jF_26_26 rfl rfl) ?_
      refine Eq.trans (jr_s (pc2 := 28) (lv2 := [(2, .int 24), (0, .ref 10), (1, .int a2)]) (st2 := [.int ((Int32.toUInt32 a2) >>> ((Int32.toUInt32 24) &&& Int32.toUInt32 31)).toInt32, .int 4, .ref 11]) jF_26_27 rfl rfl) ?_
      refine Eq.trans (jr_s (pc2 := 31) (lv2 := [(2, .int 24), (0, .ref 10), (1, .int a2)]) (st2 := [.int 255, .int ((Int32.toUInt32 a2) >>> ((Int32.toUInt32 24) &&& Int32.toUInt32 31)).toInt32, .int 4, .ref 11]) jF_26_28 rfl rfl) ?_
      refine Eq.trans (jr_s (pc2 := 32) (lv2 := [(2, .int 24), (0, .ref 10), (1, .int a2)]) (st2 := [.int (((Int32.toUInt32 a2) >>> ((Int32.toUInt32 24) &&& Int32.toUInt32 31)).toInt32 &&& 255), .int 4, .ref 11]) jF_26_31 rfl rfl) ?_
      refine Eq.trans (jr_sti (q := 4) jF_26_32 (j_aok_arl (FD.r1 (fq_8 a1 a2 a3 a4 a5)) (by decide)) (by decide +kernel)) ?_
      refine Eq.trans (jr_s (pc2 := 34) (lv2 := [(2, .int 24), (0, .ref 10), (1, .int a2)]) (st2 := [.ref 10]) jF_26_33 rfl rfl) ?_
      refine Eq.trans (jr_s (pc2 := 35) (lv2 := [(2, .int 24), (0, .ref 10), (1, .int a2)]) (st2 := [.ref 10, .ref 10]) jF_26_34 rfl rfl) ?_
      refine Eq.trans (jr_gf (v := .int 4) jF_26_35 (FD.g3 (fq_9 a1 a2 a3 a4 a5))) ?_
      refine Eq.trans (jr_s (pc2 := 39) (lv2 := [(2, .int 24), (0, .ref 10), (1, .int a2)]) (st2 := [.int 1, .int 4, .ref 10]) jF_26_38 rfl rfl) ?_
      refine Eq.trans (jr_s (pc2 := 40) (lv2 := [(2, .int 24), (0, .ref 10), (1, .int a2)]) (st2 := [.int 5, .ref 10]) jF_26_39 rfl rfl) ?_
      refine Eq.trans (jr_pf jF_26_40 (FD.o1 (fq_9 a1 a2 a3 a4 a5)) rfl) ?_
      refine Eq.trans (jr_s (pc2 := 46) (lv2 := [(2, .int 16), (0, .ref 10), (1, .int a2)]) (st2 := []) jF_26_43 rfl rfl) ?_
      refine Eq.trans (jr_s (pc2 := 3) (lv2 := [(2, .int 16), (0, .ref 10), (1, .int a2)]) (st2 := []) jF_26_46 rfl rfl) ?_
      refine Eq.trans (jr_s (pc2 := 4) (lv2 := [(2, .int 16), (0, .ref 10), (1, .int a2)]) (st2 := [.int 16]) jF_26_3 rfl rfl) ?_
      refine Eq.trans (jr_if0 jF_26_4 (by decide +kernel)) ?_
      refine Eq.trans (jr_s (pc2 := 8) (lv2 := [(2, .int 16), (0, .ref 10), (1, .int a2)]) (st2 := [.ref 10]) jF_26_7 rfl rfl) ?_
      refine Eq.trans (jr_gf (v := .int 5) jF_26_8 (FD.g3 (fq_10 a1 a2 a3 a4 a5))) ?_
      refine Eq.trans (jr_s (pc2 := 14) (lv2 := [(2, .int 16), (0, .ref 10), (1, .int a2)]) (st2 := [.int 1600, .int 5]) jF_26_11 rfl rfl) ?_
      refine Eq.trans (jr_ic0 jF_26_14 (by decide +kernel)) ?_
      refine Eq.trans (jr_s (pc2 := 18) (lv2 := [(2, .int 16), (0, .ref 10), (1, .int a2)]) (st2 := [.ref 10]) jF_26_17 rfl rfl) ?_
      refine Eq.trans (jr_gf (v := .ref 11) jF_26_18 (FD.g2 (fq_10 a1 a2 a3 a4 a5))) ?_
      refine Eq.trans (jr_s (pc2 := 22) (lv2 := [(2, .int 16), (0, .ref 10), (1, .int a2)]) (st2 := [.ref 10, .ref 11]) jF_26_21 rfl rfl) ?_
      refine Eq.trans (jr_gf (v := .int 5) jF_26_22 (FD.g3 (fq_10 a1 a2 a3 a4 a5))) ?_
      refine Eq.trans (jr_s (pc2 := 26) (lv2 := [(2, .int 16), (0, .ref 10), (1, .int a2)]) (st2 := [.int a2, .int 5, .ref 11]) jF_26_25 rfl rfl) ?_
      refine Eq.trans (jr_s (pc2 := 27) (lv2 := [(2, .int 16), (0, .ref 10), (1, .int a2)]) (st2 := [.int 16, .int a2, .int 5, .ref 11]) jF_26_26 rfl rfl) ?_
      refine Eq.trans (jr_s (pc2 := 28) (lv2 := [(2, .int 16), (0, .ref 10), (1, .int a2)]) (st2 := [.int ((Int32.toUInt32 a2) >>> ((Int32.toUInt32 16) &&& Int32.toUInt32 31)).toInt32, .int 5, .ref 11]) jF_26_27 rfl rfl) ?_
      refine Eq.trans (jr_s (pc2 := 31) (lv2 := [(2, .int 16), (0, .ref 10), (1, .int a2)]) (st2 := [.int 255, .int ((Int32.toUInt32 a2) >>> ((Int32.toUInt32 16) &&& Int32.toUInt32 31)).toInt32, .int 5, .ref 11]) jF_26_28 rfl rfl) ?_
      refine Eq.trans (jr_s (pc2 := 32) (lv2 := [(2, .int 16), (0, .ref 10), (1, .int a2)]) (st2 := [.int (((Int32.toUInt32 a2) >>> ((Int32.toUInt32 16) &&& Int32.toUInt32 31)).toInt32 &&& 255), .int 5, .ref 11]) jF_26_31 rfl rfl) ?_
      refine Eq.trans (jr_sti (q := 5) jF_26_32 (j_aok_arl (FD.r1 (fq_10 a1 a2 a3 a4 a5)) (by decide)) (by decide +kernel)) ?_
      refine Eq.trans (jr_s (pc2 := 34) (lv2 := [(2, .int 16), (0, .ref 10), (1, .int a2)]) (st2 := [.ref 10]) jF_26_33 rfl rfl) ?_
      refine Eq.trans (jr_s (pc2 := 35) (lv2 := [(2, .int 16), (0, .ref 10), (1, .int a2)]) (st2 := [.ref 10, .ref 10]) jF_26_34 rfl rfl) ?_
      refine Eq.trans (jr_gf (v := .int 5) jF_26_35 (FD.g3 (fq_11 a1 a2 a3 a4 a5))) ?_
      refine Eq.trans (jr_s (pc2 := 39) (lv2 := [(2, .int 16), (0, .ref 10), (1, .int a2)]) (st2 := [.int 1, .int 5, .ref 10]) jF_26_38 rfl rfl) ?_
      refine Eq.trans (jr_s (pc2 := 40) (lv2 := [(2, .int 16), (0, .ref 10), (1, .int a2)]) (st2 := [.int 6, .ref 10]) jF_26_39 rfl rfl) ?_
      refine Eq.trans (jr_pf jF_26_40 (FD.o1 (fq_11 a1 a2 a3 a4 a5)) rfl) ?_
      refine Eq.trans (jr_s (pc2 := 46) (lv2 := [(2, .int 8), (0, .ref 10), (1, .int a2)]) (st2 := []) jF_26_43 rfl rfl) ?_
      refine Eq.trans (jr_s (pc2 := 3) (lv2 := [(2, .int 8), (0, .ref 10), (1, .int a2)]) (st2 := []) jF_26_46 rfl rfl) ?_
      refine Eq.trans (jr_s (pc2 := 4) (lv2 := [(2, .int 8), (0, .ref 10), (1, .int a2)]) (st2 := [.int 8]) jF_26_3 rfl rfl) ?_
      refine Eq.trans (jr_if0 jF_26_4 (by decide +kernel)) ?_
      refine Eq.trans (jr_s (pc2 := 8) (lv2 := [(2, .int 8), (0, .ref 10), (1, .int a2)]) (st2 := [.ref 10]) jF_26_7 rfl rfl) ?_
      refine Eq.trans (jr_gf (v := .int 6) jF_26_8 (FD.g3 (fq_12 a1 a2 a3 a4 a5))) ?_
      refine Eq.trans (jr_s (pc2 := 14) (lv2 := [(2, .int 8), (0, .ref 10), (1, .int a2)]) (st2 := [.int 1600, .int 6]) jF_26_11 rfl rfl) ?_
      refine Eq.trans (jr_ic0 jF_26_14 (by decide +kernel)) ?_
      refine Eq.trans (jr_s (pc2 := 18) (lv2 := [(2, .int 8), (0, .ref 10), (1, .int a2)]) (st2 := [.ref 10]) jF_26_17 rfl rfl) ?_
      refine Eq.trans (jr_gf (v := .ref 11) jF_26_18 (FD.g2 (fq_12 a1 a2 a3 a4 a5))) ?_
      refine Eq.trans (jr_s (pc2 := 22) (lv2 := [(2, .int 8), (0, .ref 10), (1, .int a2)]) (st2 := [.ref 10, .ref 11]) jF_26_21 rfl rfl) ?_
      refine Eq.trans (jr_gf (v := .int 6) jF_26_22 (FD.g3 (fq_12 a1 a2 a3 a4 a5))) ?_
      refine Eq.trans (jr_s (pc2 := 26) (lv2 := [(2, .int 8), (0, .ref 10), (1, .int a2)]) (st2 := [.int a2, .int 6, .ref 11]) jF_26_25 rfl rfl) ?_
      refine Eq.trans (jr_s (pc2 := 27) (lv2 := [(2, .int 8), (0, .ref 10), (1, .int a2)]) (st2 := [.int 8, .int a2, .int 6, .ref 11]) jF_26_26 rfl rfl) ?_
      refine Eq.trans (jr_s (pc2 := 28) (lv2 := [(2, .int 8), (0, .ref 10), (1, .int a2)]) (st2 := [.int ((Int32.toUInt32 a2) >>> ((Int32.toUInt32 8) &&& Int32.toUInt32 31)).toInt32, .int 6, .ref 11]) jF_26_27 rfl rfl) ?_
      refine Eq.trans (jr_s (pc2 := 31) (lv2 := [(2, .int 8), (0, .ref 10), (1, .int a2)]) (st2 := [.int 255, .int ((Int32.toUInt32 a2) >>> ((Int32.toUInt32 8) &&& Int32.toUInt32 31)).toInt32, .int 6, .ref 11]) jF_26_28 rfl rfl) ?_
      refine Eq.trans (jr_s (pc2 := 32) (lv2 := [(2, .int 8), (0, .ref 10), (1, .int a2)]) (st2 := [.int (((Int32.toUInt32 a2) >>> ((Int32.toUInt32 8) &&& Int32.toUInt32 31)).toInt32 &&& 255), .int 6, .ref 11]) jF_26_31 rfl rfl) ?_
      refine Eq.trans (jr_sti (q := 6) jF_26_32 (j_aok_arl (FD.r1 (fq_12 a1 a2 a3 a4 a5)) (by decide)) (by decide +kernel)) ?_
      refine Eq.trans (jr_s (pc2 := 34) (lv2 := [(2, .int 8), (0, .ref 10), (1, .int a2)]) (st2 := [.ref 10]) jF_26_33 rfl rfl) ?_
      refine Eq.trans (jr_s (pc2 := 35) (lv2 := [(2, .int 8), (0, .ref 10), (1, .int a2)]) (st2 := [.ref 10, .ref 10]) jF_26_34 rfl rfl) ?_
      refine Eq.trans (jr_gf (v := .int 6) jF_26_35 (FD.g3 (fq_13 a1 a2 a3 a4 a5))) ?_
      refine Eq.trans (jr_s (pc2 := 39) (lv2 := [(2, .int 8), (0, .ref 10), (1, .int a2)]) (st2 := [.int 1, .int 6, .ref 10]) jF_26_38 rfl rfl) ?_
      refine Eq.trans (jr_s (pc2 := 40) (lv2 := [(2, .int 8), (0, .ref 10), (1, .int a2)]) (st2 := [.int 7, .ref 10]) jF_26_39 rfl rfl) ?_
      refine Eq.trans (jr_pf jF_26_40 (FD.o1 (fq_13 a1 a2 a3 a4 a5)) rfl) ?_
      refine Eq.trans (jr_s (pc2 := 46) (lv2 := [(2, .int 0), (0, .ref 10), (1, .int a2)]) (st2 := []) jF_26_43 rfl rfl) ?_
      refine Eq.trans (jr_s (pc2 := 3) (lv2 := [(2, .int 0), (0, .ref 10), (1, .int a2)]) (st2 := []) jF_26_46 rfl rfl) ?_
      refine Eq.trans (jr_s (pc2 := 4) (lv2 := [(2, .int 0), (0, .ref 10), (1, .int a2)]) (st2 := [.int 0]) jF_26_3 rfl rfl) ?_
      refine Eq.trans (jr_if0 jF_26_4 (by decide +kernel)) ?_
      refine Eq.trans (jr_s (pc2 := 8) (lv2 := [(2, .int 0), (0, .ref 10), (1, .int a2)]) (st2 := [.ref 10]) jF_26_7 rfl rfl) ?_
      refine Eq.trans (jr_gf (v := .int 7) jF_26_8 (FD.g3 (fq_14 a1 a2 a3 a4 a5))) ?_
      refine Eq.trans (jr_s (pc2 := 14) (lv2 := [(2, .int 0), (0, .ref 10), (1, .int a2)]) (st2 := [.int 1600, .int 7]) jF_26_11 rfl rfl) ?_
      refine Eq.trans (jr_ic0 jF_26_14 (by decide +kernel)) ?_
      refine Eq.trans (jr_s (pc2 := 18) (lv2 := [(2, .int 0), (0, .ref 10), (1, .int a2)]) (st2 := [.ref 10]) jF_26_17 rfl rfl) ?_
      refine Eq.trans (jr_gf (v := .ref 11) jF_26_18 (FD.g2 (fq_14 a1 a2 a3 a4 a5))) ?_
      refine Eq.trans (jr_s (pc2 := 22) (lv2 := [(2, .int 0), (0, .ref 10), (1, .int a2)]) (st2 := [.ref 10, .ref 11]) jF_26_21 rfl rfl) ?_
      refine Eq.trans (jr_gf (v := .int 7) jF_26_22 (FD.g3 (fq_14 a1 a2 a3 a4 a5))) ?_
      refine Eq.trans (jr_s (pc2 := 26) (lv2 := [(2, .int 0), (0, .ref 10), (1, .int a2)]) (st2 := [.int a2, .int 7, .ref 11]) jF_26_25 rfl rfl) ?_
      refine Eq.trans (jr_s (pc2 := 27) (lv2 := [(2, .int 0), (0, .ref 10), (1, .int a2)]) (st2 := [.int 0, .int a2, .int 7, .ref 11]) jF_26_26 rfl rfl) ?_
      refine Eq.trans (jr_s (pc2 := 28) (lv2 := [(2, .int 0), (0, .ref 10), (1, .int a2)]) (st2 := [.int ((Int32.toUInt32 a2) >>> ((Int32.toUInt32 0) &&& Int32.toUInt32 31)).toInt32, .int 7, .ref 11]) jF_26_27 rfl rfl) ?_
      refine Eq.trans (jr_s (pc2 := 31) (lv2 := [(2, .int 0), (0, .ref 10), (1, .int a2)]) (st2 := [.int 255, .int ((Int32.toUInt32 a2) >>> ((Int32.toUInt32 0) &&& Int32.toUInt32 31)).toInt32, .int 7, .ref 11]) jF_26_28 rfl rfl) ?_
      refine Eq.trans (jr_s (pc2 := 32) (lv2 := [(2, .int 0), (0, .ref 10), (1, .int a2)]) (st2 := [.int (((Int32.toUInt32 a2) >>> ((Int32.toUInt32 0) &&& Int32.toUInt32 31)).toInt32 &&& 255), .int 7, .ref 11]) jF_26_31 rfl rfl) ?_
      refine Eq.trans (jr_sti (q := 7) jF_26_32 (j_aok_arl (FD.r1 (fq_14 a1 a2 a3 a4 a5)) (by decide)) (by decide +kernel)) ?_
      refine Eq.trans (jr_s (pc2 := 34) (lv2 := [(2, .int 0), (0, .ref 10), (1, .int a2)]) (st2 := [.ref 10]) jF_26_33 rfl rfl) ?_
      refine Eq.trans (jr_s (pc2 := 35) (lv2 := [(2, .int 0), (0, .ref 10), (1, .int a2)]) (st2 := [.ref 10, .ref 10]) jF_26_34 rfl rfl) ?_
      refine Eq.trans (jr_gf (v := .int 7) jF_26_35 (FD.g3 (fq_15 a1 a2 a3 a4 a5))) ?_
      refine Eq.trans (jr_s (pc2 := 39) (lv2 := [(2, .int 0), (0, .ref 10), (1, .int a2)]) (st2 := [.int 1, .int 7, .ref 10]) jF_26_38 rfl rfl) ?_
      refine Eq.trans (jr_s (pc2 := 40) (lv2 := [(2, .int 0), (0, .ref 10), (1, .int a2)]) (st2 := [.int 8, .ref 10]) jF_26_39 rfl rfl) ?_
      refine Eq.trans (jr_pf jF_26_40 (FD.o1 (fq_15 a1 a2 a3 a4 a5)) rfl) ?_
      refine Eq.trans (jr_s (pc2 := 46) (lv2 := [(2, .int (-8)), (0, .ref 10), (1, .int a2)]) (st2 := []) jF_26_43 rfl rfl) ?_
      refine Eq.trans (jr_s (pc2 := 3) (lv2 := [(2, .int (-8)), (0, .ref 10), (1, .int a2)]) (st2 := []) jF_26_46 rfl rfl) ?_
      refine Eq.trans (jr_s (pc2 := 4) (lv2 := [(2, .int (-8)), (0, .ref 10), (1, .int a2)]) (st2 := [.int (-8)]) jF_26_3 rfl rfl) ?_
      refine Eq.trans (jr_if1 jF_26_4 (by decide +kernel)) ?_
      exact jr_rr jF_26_49
    refine Eq.trans (jr_s (pc2 := 39) (lv2 := [(0, .ref 9), (1, .int a1), (2, .int a2), (3, .int a3), (4, .int a4), (5, .int a5)]) (st2 := [.ref 9]) jF_24_38 rfl rfl) ?_
    refine Eq.trans (jr_gf (v := .ref 10) jF_24_39 (FD.g1 (fq_16 a1 a2 a3 a4 a5))) ?_
    refine Eq.trans (jr_s (pc2 := 43) (lv2 := [(0, .ref 9), (1, .int a1), (2, .int a2), (3, .int a3), (4, .int a4), (5, .int a5)]) (st2 := [.int a3, .ref 10]) jF_24_42 rfl rfl) ?_
    refine Eq.trans (jr_cV (a := 10) (as := [.int a3]) (rest := []) (v := none) (hp2 := (fh_24 a1 a2 a3 a4 a5)) (fr2 := 499) (lo2 := 19978) jF_24_43 (j_obr_ob (FD.o1 (fq_16 a1 a2 a3 a4 a5))) rfl (show j_cnd 500 20000 499 19978 3 _ _ = true from rfl) ?_) ?_
    · refine Eq.trans (jr_s (pc2 := 2) (lv2 := [(0, .ref 10), (1, .int a3)]) (st2 := [.int 24]) jF_26_0 rfl rfl) ?_
      refine Eq.trans (jr_s (pc2 := 3) (lv2 := [(2, .int 24), (0, .ref 10), (1, .int a3)]) (st2 := []) jF_26_2 rfl rfl) ?_
      refine Eq.trans (jr_s (pc2 := 4) (lv2 := [(2, .int 24), (0, .ref 10), (1, .int a3)]) (st2 := [.int 24]) jF_26_3 rfl rfl) ?_
      refine Eq.trans (jr_if0 jF_26_4 (by decide +kernel)) ?_
      refine Eq.trans (jr_s (pc2 := 8) (lv2 := [(2, .int 24), (0, .ref 10), (1, .int a3)]) (st2 := [.ref 10]) jF_26_7 rfl rfl) ?_
      refine Eq.trans (jr_gf (v := .int 8) jF_26_8 (FD.g3 (fq_16 a1 a2 a3 a4 a5))) ?_
      refine Eq.trans (jr_s (pc2 := 14) (lv2 := [(2, .int 24), (0, .ref 10), (1, .int a3)]) (st2 := [.int 1600, .int 8]) jF_26_11 rfl rfl) ?_
      refine Eq.trans (jr_ic0 jF_26_14 (by decide +kernel)) ?_
      refine Eq.trans (jr_s (pc2 := 18) (lv2 := [(2, .int 24), (0, .ref 10), (1, .int a3)]) (st2 := [.ref 10]) jF_26_17 rfl rfl) ?_
      refine Eq.trans (jr_gf (v := .ref 11) jF_26_18 (FD.g2 (fq_16 a1 a2 a3 a4 a5))) ?_
      refine Eq.trans (jr_s (pc2 := 22) (lv2 := [(2, .int 24), (0, .ref 10), (1, .int a3)]) (st2 := [.ref 10, .ref 11]) jF_26_21 rfl rfl) ?_
      refine Eq.trans (jr_gf (v := .int 8) jF_26_22 (FD.g3 (fq_16 a1 a2 a3 a4 a5))) ?_
      refine Eq.trans (jr_s (pc2 := 26) (lv2 := [(2, .int 24), (0, .ref 10), (1, .int a3)]) (st2 := [.int a3, .int 8, .ref 11]) jF_26_25 rfl rfl) ?_
      refine Eq.trans (jr_s (pc2 := 27) (lv2 := [(2, .int 24), (0, .ref 10), (1, .int a3)]) (st2 := [.int 24, .int a3, .int 8, .ref 11]) jF_26_26 rfl rfl) ?_
      refine Eq.trans (jr_s (pc2 := 28) (lv2 := [(2, .int 24), (0, .ref 10), (1, .int a3)]) (st2 := [.int ((Int32.toUInt32 a3) >>> ((Int32.toUInt32 24) &&& Int32.toUInt32 31)).toInt32, .int 8, .ref 11]) jF_26_27 rfl rfl) ?_
      refine Eq.trans (jr_s (pc2 := 31) (lv2 := [(2, .int 24), (0, .ref 10), (1, .int a3)]) (st2 := [.int 255, .int ((Int32.toUInt32 a3) >>> ((Int32.toUInt32 24) &&& Int32.toUInt32 31)).toInt32, .int 8, .ref 11]) jF_26_28 rfl rfl) ?_
      refine Eq.trans (jr_s (pc2 := 32) (lv2 := [(2, .int 24), (0, .ref 10), (1, .int a3)]) (st2 := [.int (((Int32.toUInt32 a3) >>> ((Int32.toUInt32 24) &&& Int32.toUInt32 31)).toInt32 &&& 255), .int 8, .ref 11]) jF_26_31 rfl rfl) ?_
      refine Eq.trans (jr_sti (q := 8) jF_26_32 (j_aok_arl (FD.r1 (fq_16 a1 a2 a3 a4 a5)) (by decide)) (by decide +kernel)) ?_
      refine Eq.trans (jr_s (pc2 := 34) (lv2 := [(2, .int 24), (0, .ref 10), (1, .int a3)]) (st2 := [.ref 10]) jF_26_33 rfl rfl) ?_
      refine Eq.trans (jr_s (pc2 := 35) (lv2 := [(2, .int 24), (0, .ref 10), (1, .int a3)]) (st2 := [.ref 10, .ref 10]) jF_26_34 rfl rfl) ?_
      refine Eq.trans (jr_gf (v := .int 8) jF_26_35 (FD.g3 (fq_17 a1 a2 a3 a4 a5))) ?_
      refine Eq.trans (jr_s (pc2 := 39) (lv2 := [(2, .int 24), (0, .ref 10), (1, .int a3)]) (st2 := [.int 1, .int 8, .ref 10]) jF_26_38 rfl rfl) ?_
      refine Eq.trans (jr_s (pc2 := 40) (lv2 := [(2, .int 24), (0, .ref 10), (1, .int a3)]) (st2 := [.int 9, .ref 10]) jF_26_39 rfl rfl) ?_
      refine Eq.trans (jr_pf jF_26_40 (FD.o1 (fq_17 a1 a2 a3 a4 a5)) rfl) ?_
      refine Eq.trans (jr_s (pc2 := 46) (lv2 := [(2, .int 16), (0, .ref 10), (1, .int a3)]) (st2 := []) jF_26_43 rfl rfl) ?_
      refine Eq.trans (jr_s (pc2 := 3) (lv2 := [(2, .int 16), (0, .ref 10), (1, .int a3)]) (st2 := []) jF_26_46 rfl rfl) ?_
      refine Eq.trans (jr_s (pc2 := 4) (lv2 := [(2, .int 16), (0, .ref 10), (1, .int a3)]) (st2 := [.int 16]) jF_26_3 rfl rfl) ?_
      refine Eq.trans (jr_if0 jF_26_4 (by decide +kernel)) ?_
      refine Eq.trans (jr_s (pc2 := 8) (lv2 := [(2, .int 16), (0, .ref 10), (1, .int a3)]) (st2 := [.ref 10]) jF_26_7 rfl rfl) ?_
      refine Eq.trans (jr_gf (v := .int 9) jF_26_8 (FD.g3 (fq_18 a1 a2 a3 a4 a5))) ?_
      refine Eq.trans (jr_s (pc2 := 14) (lv2 := [(2, .int 16), (0, .ref 10), (1, .int a3)]) (st2 := [.int 1600, .int 9]) jF_26_11 rfl rfl) ?_
      refine Eq.trans (jr_ic0 jF_26_14 (by decide +kernel)) ?_
      refine Eq.trans (jr_s (pc2 := 18) (lv2 := [(2, .int 16), (0, .ref 10), (1, .int a3)]) (st2 := [.ref 10]) jF_26_17 rfl rfl) ?_
      refine Eq.trans (jr_gf (v := .ref 11) jF_26_18 (FD.g2 (fq_18 a1 a2 a3 a4 a5))) ?_
      refine Eq.trans (jr_s (pc2 := 22) (lv2 := [(2, .int 16), (0, .ref 10), (1, .int a3)]) (st2 := [.ref 10, .ref 11]) jF_26_21 rfl rfl) ?_
      refine Eq.trans (jr_gf (v := .int 9) jF_26_22 (FD.g3 (fq_18 a1 a2 a3 a4 a5))) ?_
      refine Eq.trans (jr_s (pc2 := 26) (lv2 := [(2, .int 16), (0, .ref 10), (1, .int a3)]) (st2 := [.int a3, .int 9, .ref 11]) jF_26_25 rfl rfl) ?_
      refine Eq.trans (jr_s (pc2 := 27) (lv2 := [(2, .int 16), (0, .ref 10), (1, .int a3)]) (st2 := [.int 16, .int a3, .int 9, .ref 11]) jF_26_26 rfl rfl) ?_
      refine Eq.trans (jr_s (pc2 := 28) (lv2 := [(2, .int 16), (0, .ref 10), (1, .int a3)]) (st2 := [.int ((Int32.toUInt32 a3) >>> ((Int32.toUInt32 16) &&& Int32.toUInt32 31)).toInt32, .int 9, .ref 11]) jF_26_27 rfl rfl) ?_
      refine Eq.trans (jr_s (pc2 := 31) (lv2 := [(2, .int 16), (0, .ref 10), (1, .int a3)]) (st2 := [.int 255, .int ((Int32.toUInt32 a3) >>> ((Int32.toUInt32 16) &&& Int32.toUInt32 31)).toInt32, .int 9, .ref 11]) jF_26_28 rfl rfl) ?_
      refine Eq.trans (jr_s (pc2 := 32) (lv2 := [(2, .int 16), (0, .ref 10), (1, .int a3)]) (st2 := [.int (((Int32.toUInt32 a3) >>> ((Int32.toUInt32 16) &&& Int32.toUInt32 31)).toInt32 &&& 255), .int 9, .ref 11]) jF_26_31 rfl rfl) ?_
      refine Eq.trans (jr_sti (q := 9) jF_26_32 (j_aok_arl (FD.r1 (fq_18 a1 a2 a3 a4 a5)) (by decide)) (by decide +kernel)) ?_
      refine Eq.trans (jr_s (pc2 := 34) (lv2 := [(2, .int 16), (0, .ref 10), (1, .int a3)]) (st2 := [.ref 10]) jF_26_33 rfl rfl) ?_
      refine Eq.trans (jr_s (pc2 := 35) (lv2 := [(2, .int 16), (0, .ref 10), (1, .int a3)]) (st2 := [.ref 10, .ref 10]) jF_26_34 rfl rfl) ?_
      refine Eq.trans (jr_gf (v := .int 9) jF_26_35 (FD.g3 (fq_19 a1 a2 a3 a4 a5))) ?_
      refine Eq.trans (jr_s (pc2 := 39) (lv2 := [(2, .int 16), (0, .ref 10), (1, .int a3)]) (st2 := [.int 1, .int 9, .ref 10]) jF_26_38 rfl rfl) ?_
      refine Eq.trans (jr_s (pc2 := 40) (lv2 := [(2, .int 16), (0, .ref 10), (1, .int a3)]) (st2 := [.int 10, .ref 10]) jF_26_39 rfl rfl) ?_
      refine Eq.trans (jr_pf jF_26_40 (FD.o1 (fq_19 a1 a2 a3 a4 a5)) rfl) ?_
      refine Eq.trans (jr_s (pc2 := 46) (lv2 := [(2, .int 8), (0, .ref 10), (1, .int a3)]) (st2 := []) jF_26_43 rfl rfl) ?_
      refine Eq.trans (jr_s (pc2 := 3) (lv2 := [(2, .int 8), (0, .ref 10), (1, .int a3)]) (st2 := []) jF_26_46 rfl rfl) ?_
      refine Eq.trans (jr_s (pc2 := 4) (lv2 := [(2, .int 8), (0, .ref 10), (1, .int a3)]) (st2 := [.int 8]) jF_26_3 rfl rfl) ?_
      refine Eq.trans (jr_if0 jF_26_4 (by decide +kernel)) ?_
      refine Eq.trans (jr_s (pc2 := 8) (lv2 := [(2, .int 8), (0, .ref 10), (1, .int a3)]) (st2 := [.ref 10]) jF_26_7 rfl rfl) ?_
      refine Eq.trans (jr_gf (v := .int 10) jF_26_8 (FD.g3 (fq_20 a1 a2 a3 a4 a5))) ?_
      refine Eq.trans (jr_s (pc2 := 14) (lv2 := [(2, .int 8), (0, .ref 10), (1, .int a3)]) (st2 := [.int 1600, .int 10]) jF_26_11 rfl rfl) ?_
      refine Eq.trans (jr_ic0 jF_26_14 (by decide +kernel)) ?_
      refine Eq.trans (jr_s (pc2 := 18) (lv2 := [(2, .int 8), (0, .ref 10), (1, .int a3)]) (st2 := [.ref 10]) jF_26_17 rfl rfl) ?_
      refine Eq.trans (jr_gf (v := .ref 11) jF_26_18 (FD.g2 (fq_20 a1 a2 a3 a4 a5))) ?_
      refine Eq.trans (jr_s (pc2 := 22) (lv2 := [(2, .int 8), (0, .ref 10), (1, .int a3)]) (st2 := [.ref 10, .ref 11]) jF_26_21 rfl rfl) ?_
      refine Eq.trans (jr_gf (v := .int 10) jF_26_22 (FD.g3 (fq_20 a1 a2 a3 a4 a5))) ?_
      refine Eq.trans (jr_s (pc2 := 26) (lv2 := [(2, .int 8), (0, .ref 10), (1, .int a3)]) (st2 := [.int a3, .int 10, .ref 11]) jF_26_25 rfl rfl) ?_
      refine Eq.trans (jr_s (pc2 := 27) (lv2 := [(2, .int 8), (0, .ref 10), (1, .int a3)]) (st2 := [.int 8, .int a3, .int 10, .ref 11]) jF_26_26 rfl rfl) ?_
      refine Eq.trans (jr_s (pc2 := 28) (lv2 := [(2, .int 8), (0, .ref 10), (1, .int a3)]) (st2 := [.int ((Int32.toUInt32 a3) >>> ((Int32.toUInt32 8) &&& Int32.toUInt32 31)).toInt32, .int 10, .ref 11]) jF_26_27 rfl rfl) ?_
      refine Eq.trans (jr_s (pc2 := 31) (lv2 := [(2, .int 8), (0, .ref 10), (1, .int a3)]) (st2 := [.int 255, .int ((Int32.toUInt32 a3) >>> ((Int32.toUInt32 8) &&& Int32.toUInt32 31)).toInt32, .int 10, .ref 11]) jF_26_28 rfl rfl) ?_
      refine Eq.trans (jr_s (pc2 := 32) (lv2 := [(2, .int 8), (0, .ref 10), (1, .int a3)]) (st2 := [.int (((Int32.toUInt32 a3) >>> ((Int32.toUInt32 8) &&& Int32.toUInt32 31)).toInt32 &&& 255), .int 10, .ref 11]) jF_26_31 rfl rfl) ?_
      refine Eq.trans (jr_sti (q := 10) jF_26_32 (j_aok_arl (FD.r1 (fq_20 a1 a2 a3 a4 a5)) (by decide)) (by decide +kernel)) ?_
      refine Eq.trans (jr_s (pc2 := 34) (lv2 := [(2, .int 8), (0, .ref 10), (1, .int a3)]) (st2 := [.ref 10]) jF_26_33 rfl rfl) ?_
      refine Eq.trans (jr_s (pc2 := 35) (lv2 := [(2, .int 8), (0, .ref 10), (1, .int a3)]) (st2 := [.ref 10, .ref 10]) jF_26_34 rfl rfl) ?_
      refine Eq.trans (jr_gf (v := .int 10) jF_26_35 (FD.g3 (fq_21 a1 a2 a3 a4 a5))) ?_
      refine Eq.trans (jr_s (pc2 := 39) (lv2 := [(2, .int 8), (0, .ref 10), (1, .int a3)]) (st2 := [.int 1, .int 10, .ref 10]) jF_26_38 rfl rfl) ?_
      refine Eq.trans (jr_s (pc2 := 40) (lv2 := [(2, .int 8), (0, .ref 10), (1, .int a3)]) (st2 := [.int 11, .ref 10]) jF_26_39 rfl rfl) ?_
      refine Eq.trans (jr_pf jF_26_40 (FD.o1 (fq_21 a1 a2 a3 a4 a5)) rfl) ?_
      refine Eq.trans (jr_s (pc2 := 46) (lv2 := [(2, .int 0), (0, .ref 10), (1, .int a3)]) (st2 := []) jF_26_43 rfl rfl) ?_
      refine Eq.trans (jr_s (pc2 := 3) (lv2 := [(2, .int 0), (0, .ref 10), (1, .int a3)]) (st2 := []) jF_26_46 rfl rfl) ?_
      refine Eq.trans (jr_s (pc2 := 4) (lv2 := [(2, .int 0), (0, .ref 10), (1, .int a3)]) (st2 := [.int 0]) jF_26_3 rfl rfl) ?_
      refine Eq.trans (jr_if0 jF_26_4 (by decide +kernel)) ?_
      refine Eq.trans (jr_s (pc2 := 8) (lv2 := [(2, .int 0), (0, .ref 10), (1, .int a3)]) (st2 := [.ref 10]) jF_26_7 rfl rfl) ?_
      refine Eq.trans (jr_gf (v := .int 11) jF_26_8 (FD.g3 (fq_22 a1 a2 a3 a4 a5))) ?_
      refine Eq.trans (jr_s (pc2 := 14) (lv2 := [(2, .int 0), (0, .ref 10), (1, .int a3)]) (st2 := [.int 1600, .int 11]) jF_26_11 rfl rfl) ?_
      refine Eq.trans (jr_ic0 jF_26_14 (by decide +kernel)) ?_
      refine Eq.trans (jr_s (pc2 := 18) (lv2 := [(2, .int 0), (0, .ref 10), (1, .int a3)]) (st2 := [.ref 10]) jF_26_17 rfl rfl) ?_
      refine Eq.trans (jr_gf (v := .ref 11) jF_26_18 (FD.g2 (fq_22 a1 a2 a3 a4 a5))) ?_
      refine Eq.trans (jr_s (pc2 := 22) (lv2 := [(2, .int 0), (0, .ref 10), (1, .int a3)]) (st2 := [.ref 10, .ref 11]) jF_26_21 rfl rfl) ?_
      refine Eq.trans (jr_gf (v := .int 11) jF_26_22 (FD.g3 (fq_22 a1 a2 a3 a4 a5))) ?_
      refine Eq.trans (jr_s (pc2 := 26) (lv2 := [(2, .int 0), (0, .ref 10), (1, .int a3)]) (st2 := [.int a3, .int 11, .ref 11]) jF_26_25 rfl rfl) ?_
      refine Eq.trans (jr_s (pc2 := 27) (lv2 := [(2, .int 0), (0, .ref 10), (1, .int a3)]) (st2 := [.int 0, .int a3, .int 11, .ref 11]) jF_26_26 rfl rfl) ?_
      refine Eq.trans (jr_s (pc2 := 28) (lv2 := [(2, .int 0), (0, .ref 10), (1, .int a3)]) (st2 := [.int ((Int32.toUInt32 a3) >>> ((Int32.toUInt32 0) &&& Int32.toUInt32 31)).toInt32, .int 11, .ref 11]) jF_26_27 rfl rfl) ?_
      refine Eq.trans (jr_s (pc2 := 31) (lv2 := [(2, .int 0), (0, .ref 10), (1, .int a3)]) (st2 := [.int 255, .int ((Int32.toUInt32 a3) >>> ((Int32.toUInt32 0) &&& Int32.toUInt32 31)).toInt32, .int 11, .ref 11]) jF_26_28 rfl rfl) ?_
      refine Eq.trans (jr_s (pc2 := 32) (lv2 := [(2, .int 0), (0, .ref 10), (1, .int a3)]) (st2 := [.int (((Int32.toUInt32 a3) >>> ((Int32.toUInt32 0) &&& Int32.toUInt32 31)).toInt32 &&& 255), .int 11, .ref 11]) jF_26_31 rfl rfl) ?_
      refine Eq.trans (jr_sti (q := 11) jF_26_32 (j_aok_arl (FD.r1 (fq_22 a1 a2 a3 a4 a5)) (by decide)) (by decide +kernel)) ?_
      refine Eq.trans (jr_s (pc2 := 34) (lv2 := [(2, .int 0), (0, .ref 10), (1, .int a3)]) (st2 := [.ref 10]) jF_26_33 rfl rfl) ?_
      refine Eq.trans (jr_s (pc2 := 35) (lv2 := [(2, .int 0), (0, .ref 10), (1, .int a3)]) (st2 := [.ref 10, .ref 10]) jF_26_34 rfl rfl) ?_
      refine Eq.trans (jr_gf (v := .int 11) jF_26_35 (FD.g3 (fq_23 a1 a2 a3 a4 a5))) ?_
      refine Eq.trans (jr_s (pc2 := 39) (lv2 := [(2, .int 0), (0, .ref 10), (1, .int a3)]) (st2 := [.int 1, .int 11, .ref 10]) jF_26_38 rfl rfl) ?_
      refine Eq.trans (jr_s (pc2 := 40) (lv2 := [(2, .int 0), (0, .ref 10), (1, .int a3)]) (st2 := [.int 12, .ref 10]) jF_26_39 rfl rfl) ?_
      refine Eq.trans (jr_pf jF_26_40 (FD.o1 (fq_23 a1 a2 a3 a4 a5)) rfl) ?_
      refine Eq.trans (jr_s (pc2 := 46) (lv2 := [(2, .int (-8)), (0, .ref 10), (1, .int a3)]) (st2 := []) jF_26_43 rfl rfl) ?_
      refine Eq.trans (jr_s (pc2 := 3) (lv2 := [(2, .int (-8)), (0, .ref 10), (1, .int a3)]) (st2 := []) jF_26_46 rfl rfl) ?_
      refine Eq.trans (jr_s (pc2 := 4) (lv2 := [(2, .int (-8)), (0, .ref 10), (1, .int a3)]) (st2 := [.int (-8)]) jF_26_3 rfl rfl) ?_
      refine Eq.trans (jr_if1 jF_26_4 (by decide +kernel)) ?_
      exact jr_rr jF_26_49
    refine Eq.trans (jr_s (pc2 := 47) (lv2 := [(0, .ref 9), (1, .int a1), (2, .int a2), (3, .int a3), (4, .int a4), (5, .int a5)]) (st2 := [.ref 9]) jF_24_46 rfl rfl) ?_
    refine Eq.trans (jr_gf (v := .ref 10) jF_24_47 (FD.g1 (fq_24 a1 a2 a3 a4 a5))) ?_
    refine Eq.trans (jr_s (pc2 := 52) (lv2 := [(0, .ref 9), (1, .int a1), (2, .int a2), (3, .int a3), (4, .int a4), (5, .int a5)]) (st2 := [.int a4, .ref 10]) jF_24_50 rfl rfl) ?_
    refine Eq.trans (jr_cV (a := 10) (as := [.int a4]) (rest := []) (v := none) (hp2 := (fh_32 a1 a2 a3 a4 a5)) (fr2 := 499) (lo2 := 19978) jF_24_52 (j_obr_ob (FD.o1 (fq_24 a1 a2 a3 a4 a5))) rfl (show j_cnd 500 20000 499 19978 3 _ _ = true from rfl) ?_) ?_
    · refine Eq.trans (jr_s (pc2 := 2) (lv2 := [(0, .ref 10), (1, .int a4)]) (st2 := [.int 24]) jF_26_0 rfl rfl) ?_
      refine Eq.trans (jr_s (pc2 := 3) (lv2 := [(2, .int 24), (0, .ref 10), (1, .int a4)]) (st2 := []) jF_26_2 rfl rfl) ?_
      refine Eq.trans (jr_s (pc2 := 4) (lv2 := [(2, .int 24), (0, .ref 10), (1, .int a4)]) (st2 := [.int 24]) jF_26_3 rfl rfl) ?_
      refine Eq.trans (jr_if0 jF_26_4 (by decide +kernel)) ?_
      refine Eq.trans (jr_s (pc2 := 8) (lv2 := [(2, .int 24), (0, .ref 10), (1, .int a4)]) (st2 := [.ref 10]) jF_26_7 rfl rfl) ?_
      refine Eq.trans (jr_gf (v := .int 12) jF_26_8 (FD.g3 (fq_24 a1 a2 a3 a4 a5))) ?_
      refine Eq.trans (jr_s (pc2 := 14) (lv2 := [(2, .int 24), (0, .ref 10), (1, .int a4)]) (st2 := [.int 1600, .int 12]) jF_26_11 rfl rfl) ?_
      refine Eq.trans (jr_ic0 jF_26_14 (by decide +kernel)) ?_
      refine Eq.trans (jr_s (pc2 := 18) (lv2 := [(2, .int 24), (0, .ref 10), (1, .int a4)]) (st2 := [.ref 10]) jF_26_17 rfl rfl) ?_
      refine Eq.trans (jr_gf (v := .ref 11) jF_26_18 (FD.g2 (fq_24 a1 a2 a3 a4 a5))) ?_
      refine Eq.trans (jr_s (pc2 := 22) (lv2 := [(2, .int 24), (0, .ref 10), (1, .int a4)]) (st2 := [.ref 10, .ref 11]) jF_26_21 rfl rfl) ?_
      refine Eq.trans (jr_gf (v := .int 12) jF_26_22 (FD.g3 (fq_24 a1 a2 a3 a4 a5))) ?_
      refine Eq.trans (jr_s (pc2 := 26) (lv2 := [(2, .int 24), (0, .ref 10), (1, .int a4)]) (st2 := [.int a4, .int 12, .ref 11]) jF_26_25 rfl rfl) ?_
      refine Eq.trans (jr_s (pc2 := 27) (lv2 := [(2, .int 24), (0, .ref 10), (1, .int a4)]) (st2 := [.int 24, .int a4, .int 12, .ref 11]) jF_26_26 rfl rfl) ?_
      refine Eq.trans (jr_s (pc2 := 28) (lv2 := [(2, .int 24), (0, .ref 10), (1, .int a4)]) (st2 := [.int ((Int32.toUInt32 a4) >>> ((Int32.toUInt32 24) &&& Int32.toUInt32 31)).toInt32, .int 12, .ref 11]) jF_26_27 rfl rfl) ?_
      refine Eq.trans (jr_s (pc2 := 31) (lv2 := [(2, .int 24), (0, .ref 10), (1, .int a4)]) (st2 := [.int 255, .int ((Int32.toUInt32 a4) >>> ((Int32.toUInt32 24) &&& Int32.toUInt32 31)).toInt32, .int 12, .ref 11]) jF_26_28 rfl rfl) ?_
      refine Eq.trans (jr_s (pc2 := 32) (lv2 := [(2, .int 24), (0, .ref 10), (1, .int a4)]) (st2 := [.int (((Int32.toUInt32 a4) >>> ((Int32.toUInt32 24) &&& Int32.toUInt32 31)).toInt32 &&& 255), .int 12, .ref 11]) jF_26_31 rfl rfl) ?_
      refine Eq.trans (jr_sti (q := 12) jF_26_32 (j_aok_arl (FD.r1 (fq_24 a1 a2 a3 a4 a5)) (by decide)) (by decide +kernel)) ?_
      refine Eq.trans (jr_s (pc2 := 34) (lv2 := [(2, .int 24), (0, .ref 10), (1, .int a4)]) (st2 := [.ref 10]) jF_26_33 rfl rfl) ?_
      refine Eq.trans (jr_s (pc2 := 35) (lv2 := [(2, .int 24), (0, .ref 10), (1, .int a4)]) (st2 := [.ref 10, .ref 10]) jF_26_34 rfl rfl) ?_
      refine Eq.trans (jr_gf (v := .int 12) jF_26_35 (FD.g3 (fq_25 a1 a2 a3 a4 a5))) ?_
      refine Eq.trans (jr_s (pc2 := 39) (lv2 := [(2, .int 24), (0, .ref 10), (1, .int a4)]) (st2 := [.int 1, .int 12, .ref 10]) jF_26_38 rfl rfl) ?_
      refine Eq.trans (jr_s (pc2 := 40) (lv2 := [(2, .int 24), (0, .ref 10), (1, .int a4)]) (st2 := [.int 13, .ref 10]) jF_26_39 rfl rfl) ?_
      refine Eq.trans (jr_pf jF_26_40 (FD.o1 (fq_25 a1 a2 a3 a4 a5)) rfl) ?_
      refine Eq.trans (jr_s (pc2 := 46) (lv2 := [(2, .int 16), (0, .ref 10), (1, .int a4)]) (st2 := []) jF_26_43 rfl rfl) ?_
      refine Eq.trans (jr_s (pc2 := 3) (lv2 := [(2, .int 16), (0, .ref 10), (1, .int a4)]) (st2 := []) jF_26_46 rfl rfl) ?_
      refine Eq.trans (jr_s (pc2 := 4) (lv2 := [(2, .int 16), (0, .ref 10), (1, .int a4)]) (st2 := [.int 16]) jF_26_3 rfl rfl) ?_
      refine Eq.trans (jr_if0 jF_26_4 (by decide +kernel)) ?_
      refine Eq.trans (jr_s (pc2 := 8) (lv2 := [(2, .int 16), (0, .ref 10), (1, .int a4)]) (st2 := [.ref 10]) jF_26_7 rfl rfl) ?_
      refine Eq.trans (jr_gf (v := .int 13) jF_26_8 (FD.g3 (fq_26 a1 a2 a3 a4 a5))) ?_
      refine Eq.trans (jr_s (pc2 := 14) (lv2 := [(2, .int 16), (0, .ref 10), (1, .int a4)]) (st2 := [.int 1600, .int 13]) jF_26_11 rfl rfl) ?_
      refine Eq.trans (jr_ic0 jF_26_14 (by decide +kernel)) ?_
      refine Eq.trans (jr_s (pc2 := 18) (lv2 := [(2, .int 16), (0, .ref 10), (1, .int a4)]) (st2 := [.ref 10]) jF_26_17 rfl rfl) ?_
      refine Eq.trans (jr_gf (v := .ref 11) jF_26_18 (FD.g2 (fq_26 a1 a2 a3 a4 a5))) ?_
      refine Eq.trans (jr_s (pc2 := 22) (lv2 := [(2, .int 16), (0, .ref 10), (1, .int a4)]) (st2 := [.ref 10, .ref 11]) jF_26_21 rfl rfl) ?_
      refine Eq.trans (jr_gf (v := .int 13) jF_26_22 (FD.g3 (fq_26 a1 a2 a3 a4 a5))) ?_
      refine Eq.trans (jr_s (pc2 := 26) (lv2 := [(2, .int 16), (0, .ref 10), (1, .int a4)]) (st2 := [.int a4, .int 13, .ref 11]) jF_26_25 rfl rfl) ?_
      refine Eq.trans (jr_s (pc2 := 27) (lv2 := [(2, .int 16), (0, .ref 10), (1, .int a4)]) (st2 := [.int 16, .int a4, .int 13, .ref 11]) jF_26_26 rfl rfl) ?_
      refine Eq.trans (jr_s (pc2 := 28) (lv2 := [(2, .int 16), (0, .ref 10), (1, .int a4)]) (st2 := [.int ((Int32.toUInt32 a4) >>> ((Int32.toUInt32 16) &&& Int32.toUInt32 31)).toInt32, .int 13, .ref 11]) jF_26_27 rfl rfl) ?_
      refine Eq.trans (jr_s (pc2 := 31) (lv2 := [(2, .int 16), (0, .ref 10), (1, .int a4)]) (st2 := [.int 255, .int ((Int32.toUInt32 a4) >>> ((Int32.toUInt32 16) &&& Int32.toUInt32 31)).toInt32, .int 13, .ref 11]) jF_26_28 rfl rfl) ?_
      refine Eq.trans (jr_s (pc2 := 32) (lv2 := [(2, .int 16), (0, .ref 10), (1, .int a4)]) (st2 := [.int (((Int32.toUInt32 a4) >>> ((Int32.toUInt32 16) &&& Int32.toUInt32 31)).toInt32 &&& 255), .int 13, .ref 11]) jF_26_31 rfl rfl) ?_
      refine Eq.trans (jr_sti (q := 13) jF_26_32 (j_aok_arl (FD.r1 (fq_26 a1 a2 a3 a4 a5)) (by decide)) (by decide +kernel)) ?_
      refine Eq.trans (jr_s (pc2 := 34) (lv2 := [(2, .int 16), (0, .ref 10), (1, .int a4)]) (st2 := [.ref 10]) jF_26_33 rfl rfl) ?_
      refine Eq.trans (jr_s (pc2 := 35) (lv2 := [(2, .int 16), (0, .ref 10), (1, .int a4)]) (st2 := [.ref 10, .ref 10]) jF_26_34 rfl rfl) ?_
      refine Eq.trans (jr_gf (v := .int 13) jF_26_35 (FD.g3 (fq_27 a1 a2 a3 a4 a5))) ?_
      refine Eq.trans (jr_s (pc2 := 39) (lv2 := [(2, .int 16), (0, .ref 10), (1, .int a4)]) (st2 := [.int 1, .int 13, .ref 10]) jF_26_38 rfl rfl) ?_
      refine Eq.trans (jr_s (pc2 := 40) (lv2 := [(2, .int 16), (0, .ref 10), (1, .int a4)]) (st2 := [.int 14, .ref 10]) jF_26_39 rfl rfl) ?_
      refine Eq.trans (jr_pf jF_26_40 (FD.o1 (fq_27 a1 a2 a3 a4 a5)) rfl) ?_
      refine Eq.trans (jr_s (pc2 := 46) (lv2 := [(2, .int 8), (0, .ref 10), (1, .int a4)]) (st2 := []) jF_26_43 rfl rfl) ?_
      refine Eq.trans (jr_s (pc2 := 3) (lv2 := [(2, .int 8), (0, .ref 10), (1, .int a4)]) (st2 := []) jF_26_46 rfl rfl) ?_
      refine Eq.trans (jr_s (pc2 := 4) (lv2 := [(2, .int 8), (0, .ref 10), (1, .int a4)]) (st2 := [.int 8]) jF_26_3 rfl rfl) ?_
      refine Eq.trans (jr_if0 jF_26_4 (by decide +kernel)) ?_
      refine Eq.trans (jr_s (pc2 := 8) (lv2 := [(2, .int 8), (0, .ref 10), (1, .int a4)]) (st2 := [.ref 10]) jF_26_7 rfl rfl) ?_
      refine Eq.trans (jr_gf (v := .int 14) jF_26_8 (FD.g3 (fq_28 a1 a2 a3 a4 a5))) ?_
      refine Eq.trans (jr_s (pc2 := 14) (lv2 := [(2, .int 8), (0, .ref 10), (1, .int a4)]) (st2 := [.int 1600, .int 14]) jF_26_11 rfl rfl) ?_
      refine Eq.trans (jr_ic0 jF_26_14 (by decide +kernel)) ?_
      refine Eq.trans (jr_s (pc2 := 18) (lv2 := [(2, .int 8), (0, .ref 10), (1, .int a4)]) (st2 := [.ref 10]) jF_26_17 rfl rfl) ?_
      refine Eq.trans (jr_gf (v := .ref 11) jF_26_18 (FD.g2 (fq_28 a1 a2 a3 a4 a5))) ?_
      refine Eq.trans (jr_s (pc2 := 22) (lv2 := [(2, .int 8), (0, .ref 10), (1, .int a4)]) (st2 := [.ref 10, .ref 11]) jF_26_21 rfl rfl) ?_
      refine Eq.trans (jr_gf (v := .int 14) jF_26_22 (FD.g3 (fq_28 a1 a2 a3 a4 a5))) ?_
      refine Eq.trans (jr_s (pc2 := 26) (lv2 := [(2, .int 8), (0, .ref 10), (1, .int a4)]) (st2 := [.int a4, .int 14, .ref 11]) jF_26_25 rfl rfl) ?_
      refine Eq.trans (jr_s (pc2 := 27) (lv2 := [(2, .int 8), (0, .ref 10), (1, .int a4)]) (st2 := [.int 8, .int a4, .int 14, .ref 11]) jF_26_26 rfl rfl) ?_
      refine Eq.trans (jr_s (pc2 := 28) (lv2 := [(2, .int 8), (0, .ref 10), (1, .int a4)]) (st2 := [.int ((Int32.toUInt32 a4) >>> ((Int32.toUInt32 8) &&& Int32.toUInt32 31)).toInt32, .int 14, .ref 11]) jF_26_27 rfl rfl) ?_
      refine Eq.trans (jr_s (pc2 := 31) (lv2 := [(2, .int 8), (0, .ref 10), (1, .int a4)]) (st2 := [.int 255, .int ((Int32.toUInt32 a4) >>> ((Int32.toUInt32 8) &&& Int32.toUInt32 31)).toInt32, .int 14, .ref 11]) jF_26_28 rfl rfl) ?_
      refine Eq.trans (jr_s (pc2 := 32) (lv2 := [(2, .int 8), (0, .ref 10), (1, .int a4)]) (st2 := [.int (((Int32.toUInt32 a4) >>> ((Int32.toUInt32 8) &&& Int32.toUInt32 31)).toInt32 &&& 255), .int 14, .ref 11]) jF_26_31 rfl rfl) ?_
      refine Eq.trans (jr_sti (q := 14) jF_26_32 (j_aok_arl (FD.r1 (fq_28 a1 a2 a3 a4 a5)) (by decide)) (by decide +kernel)) ?_
      refine Eq.trans (jr_s (pc2 := 34) (lv2 := [(2, .int 8), (0, .ref 10), (1, .int a4)]) (st2 := [.ref 10]) jF_26_33 rfl rfl) ?_
      refine Eq.trans (jr_s (pc2 := 35) (lv2 := [(2, .int 8), (0, .ref 10), (1, .int a4)]) (st2 := [.ref 10, .ref 10]) jF_26_34 rfl rfl) ?_
      refine Eq.trans (jr_gf (v := .int 14) jF_26_35 (FD.g3 (fq_29 a1 a2 a3 a4 a5))) ?_
      refine Eq.trans (jr_s (pc2 := 39) (lv2 := [(2, .int 8), (0, .ref 10), (1, .int a4)]) (st2 := [.int 1, .int 14, .ref 10]) jF_26_38 rfl rfl) ?_
      refine Eq.trans (jr_s (pc2 := 40) (lv2 := [(2, .int 8), (0, .ref 10), (1, .int a4)]) (st2 := [.int 15, .ref 10]) jF_26_39 rfl rfl) ?_
      refine Eq.trans (jr_pf jF_26_40 (FD.o1 (fq_29 a1 a2 a3 a4 a5)) rfl) ?_
      refine Eq.trans (jr_s (pc2 := 46) (lv2 := [(2, .int 0), (0, .ref 10), (1, .int a4)]) (st2 := []) jF_26_43 rfl rfl) ?_
      refine Eq.trans (jr_s (pc2 := 3) (lv2 := [(2, .int 0), (0, .ref 10), (1, .int a4)]) (st2 := []) jF_26_46 rfl rfl) ?_
      refine Eq.trans (jr_s (pc2 := 4) (lv2 := [(2, .int 0), (0, .ref 10), (1, .int a4)]) (st2 := [.int 0]) jF_26_3 rfl rfl) ?_
      refine Eq.trans (jr_if0 jF_26_4 (by decide +kernel)) ?_
      refine Eq.trans (jr_s (pc2 := 8) (lv2 := [(2, .int 0), (0, .ref 10), (1, .int a4)]) (st2 := [.ref 10]) jF_26_7 rfl rfl) ?_
      refine Eq.trans (jr_gf (v := .int 15) jF_26_8 (FD.g3 (fq_30 a1 a2 a3 a4 a5))) ?_
      refine Eq.trans (jr_s (pc2 := 14) (lv2 := [(2, .int 0), (0, .ref 10), (1, .int a4)]) (st2 := [.int 1600, .int 15]) jF_26_11 rfl rfl) ?_
      refine Eq.trans (jr_ic0 jF_26_14 (by decide +kernel)) ?_
      refine Eq.trans (jr_s (pc2 := 18) (lv2 := [(2, .int 0), (0, .ref 10), (1, .int a4)]) (st2 := [.ref 10]) jF_26_17 rfl rfl) ?_
      refine Eq.trans (jr_gf (v := .ref 11) jF_26_18 (FD.g2 (fq_30 a1 a2 a3 a4 a5))) ?_
      refine Eq.trans (jr_s (pc2 := 22) (lv2 := [(2, .int 0), (0, .ref 10), (1, .int a4)]) (st2 := [.ref 10, .ref 11]) jF_26_21 rfl rfl) ?_
      refine Eq.trans (jr_gf (v := .int 15) jF_26_22 (FD.g3 (fq_30 a1 a2 a3 a4 a5))) ?_
      refine Eq.trans (jr_s (pc2 := 26) (lv2 := [(2, .int 0), (0, .ref 10), (1, .int a4)]) (st2 := [.int a4, .int 15, .ref 11]) jF_26_25 rfl rfl) ?_
      refine Eq.trans (jr_s (pc2 := 27) (lv2 := [(2, .int 0), (0, .ref 10), (1, .int a4)]) (st2 := [.int 0, .int a4, .int 15, .ref 11]) jF_26_26 rfl rfl) ?_
      refine Eq.trans (jr_s (pc2 := 28) (lv2 := [(2, .int 0), (0, .ref 10), (1, .int a4)]) (st2 := [.int ((Int32.toUInt32 a4) >>> ((Int32.toUInt32 0) &&& Int32.toUInt32 31)).toInt32, .int 15, .ref 11]) jF_26_27 rfl rfl) ?_
      refine Eq.trans (jr_s (pc2 := 31) (lv2 := [(2, .int 0), (0, .ref 10), (1, .int a4)]) (st2 := [.int 255, .int ((Int32.toUInt32 a4) >>> ((Int32.toUInt32 0) &&& Int32.toUInt32 31)).toInt32, .int 15, .ref 11]) jF_26_28 rfl rfl) ?_
      refine Eq.trans (jr_s (pc2 := 32) (lv2 := [(2, .int 0), (0, .ref 10), (1, .int a4)]) (st2 := [.int (((Int32.toUInt32 a4) >>> ((Int32.toUInt32 0) &&& Int32.toUInt32 31)).toInt32 &&& 255), .int 15, .ref 11]) jF_26_31 rfl rfl) ?_
      refine Eq.trans (jr_sti (q := 15) jF_26_32 (j_aok_arl (FD.r1 (fq_30 a1 a2 a3 a4 a5)) (by decide)) (by decide +kernel)) ?_
      refine Eq.trans (jr_s (pc2 := 34) (lv2 := [(2, .int 0), (0, .ref 10), (1, .int a4)]) (st2 := [.ref 10]) jF_26_33 rfl rfl) ?_
      refine Eq.trans (jr_s (pc2 := 35) (lv2 := [(2, .int 0), (0, .ref 10), (1, .int a4)]) (st2 := [.ref 10, .ref 10]) jF_26_34 rfl rfl) ?_
      refine Eq.trans (jr_gf (v := .int 15) jF_26_35 (FD.g3 (fq_31 a1 a2 a3 a4 a5))) ?_
      refine Eq.trans (jr_s (pc2 := 39) (lv2 := [(2, .int 0), (0, .ref 10), (1, .int a4)]) (st2 := [.int 1, .int 15, .ref 10]) jF_26_38 rfl rfl) ?_
      refine Eq.trans (jr_s (pc2 := 40) (lv2 := [(2, .int 0), (0, .ref 10), (1, .int a4)]) (st2 := [.int 16, .ref 10]) jF_26_39 rfl rfl) ?_
      refine Eq.trans (jr_pf jF_26_40 (FD.o1 (fq_31 a1 a2 a3 a4 a5)) rfl) ?_
      refine Eq.trans (jr_s (pc2 := 46) (lv2 := [(2, .int (-8)), (0, .ref 10), (1, .int a4)]) (st2 := []) jF_26_43 rfl rfl) ?_
      refine Eq.trans (jr_s (pc2 := 3) (lv2 := [(2, .int (-8)), (0, .ref 10), (1, .int a4)]) (st2 := []) jF_26_46 rfl rfl) ?_
      refine Eq.trans (jr_s (pc2 := 4) (lv2 := [(2, .int (-8)), (0, .ref 10), (1, .int a4)]) (st2 := [.int (-8)]) jF_26_3 rfl rfl) ?_
      refine Eq.trans (jr_if1 jF_26_4 (by decide +kernel)) ?_
      exact jr_rr jF_26_49
    refine Eq.trans (jr_s (pc2 := 56) (lv2 := [(0, .ref 9), (1, .int a1), (2, .int a2), (3, .int a3), (4, .int a4), (5, .int a5)]) (st2 := [.ref 9]) jF_24_55 rfl rfl) ?_
    refine Eq.trans (jr_gf (v := .ref 10) jF_24_56 (FD.g1 (fq_32 a1 a2 a3 a4 a5))) ?_
    refine Eq.trans (jr_s (pc2 := 61) (lv2 := [(0, .ref 9), (1, .int a1), (2, .int a2), (3, .int a3), (4, .int a4), (5, .int a5)]) (st2 := [.int a5, .ref 10]) jF_24_59 rfl rfl) ?_
    refine Eq.trans (jr_cV (a := 10) (as := [.int a5]) (rest := []) (v := none) (hp2 := (fh_40 a1 a2 a3 a4 a5)) (fr2 := 499) (lo2 := 19978) jF_24_61 (j_obr_ob (FD.o1 (fq_32 a1 a2 a3 a4 a5))) rfl (show j_cnd 500 20000 499 19978 3 _ _ = true from rfl) ?_) ?_
    · refine Eq.trans (jr_s (pc2 := 2) (lv2 := [(0, .ref 10), (1, .int a5)]) (st2 := [.int 24]) jF_26_0 rfl rfl) ?_
      refine Eq.trans (jr_s (pc2 := 3) (lv2 := [(2, .int 24), (0, .ref 10), (1, .int a5)]) (st2 := []) jF_26_2 rfl rfl) ?_
      refine Eq.trans (jr_s (pc2 := 4) (lv2 := [(2, .int 24), (0, .ref 10), (1, .int a5)]) (st2 := [.int 24]) jF_26_3 rfl rfl) ?_
      refine Eq.trans (jr_if0 jF_26_4 (by decide +kernel)) ?_
      refine Eq.trans (jr_s (pc2 := 8) (lv2 := [(2, .int 24), (0, .ref 10), (1, .int a5)]) (st2 := [.ref 10]) jF_26_7 rfl rfl) ?_
      refine Eq.trans (jr_gf (v := .int 16) jF_26_8 (FD.g3 (fq_32 a1 a2 a3 a4 a5))) ?_
      refine Eq.trans (jr_s (pc2 := 14) (lv2 := [(2, .int 24), (0, .ref 10), (1, .int a5)]) (st2 := [.int 1600, .int 16]) jF_26_11 rfl rfl) ?_
      refine Eq.trans (jr_ic0 jF_26_14 (by decide +kernel)) ?_
      refine Eq.trans (jr_s (pc2 := 18) (lv2 := [(2, .int 24), (0, .ref 10), (1, .int a5)]) (st2 := [.ref 10]) jF_26_17 rfl rfl) ?_
      refine Eq.trans (jr_gf (v := .ref 11) jF_26_18 (FD.g2 (fq_32 a1 a2 a3 a4 a5))) ?_
      refine Eq.trans (jr_s (pc2 := 22) (lv2 := [(2, .int 24), (0, .ref 10), (1, .int a5)]) (st2 := [.ref 10, .ref 11]) jF_26_21 rfl rfl) ?_
      refine Eq.trans (jr_gf (v := .int 16) jF_26_22 (FD.g3 (fq_32 a1 a2 a3 a4 a5))) ?_
      refine Eq.trans (jr_s (pc2 := 26) (lv2 := [(2, .int 24), (0, .ref 10), (1, .int a5)]) (st2 := [.int a5, .int 16, .ref 11]) jF_26_25 rfl rfl) ?_
      refine Eq.trans (jr_s (pc2 := 27) (lv2 := [(2, .int 24), (0, .ref 10), (1, .int a5)]) (st2 := [.int 24, .int a5, .int 16, .ref 11]) jF_26_26 rfl rfl) ?_
      refine Eq.trans (jr_s (pc2 := 28) (lv2 := [(2, .int 24), (0, .ref 10), (1, .int a5)]) (st2 := [.int ((Int32.toUInt32 a5) >>> ((Int32.toUInt32 24) &&& Int32.toUInt32 31)).toInt32, .int 16, .ref 11]) jF_26_27 rfl rfl) ?_
      refine Eq.trans (jr_s (pc2 := 31) (lv2 := [(2, .int 24), (0, .ref 10), (1, .int a5)]) (st2 := [.int 255, .int ((Int32.toUInt32 a5) >>> ((Int32.toUInt32 24) &&& Int32.toUInt32 31)).toInt32, .int 16, .ref 11]) jF_26_28 rfl rfl) ?_
      refine Eq.trans (jr_s (pc2 := 32) (lv2 := [(2, .int 24), (0, .ref 10), (1, .int a5)]) (st2 := [.int (((Int32.toUInt32 a5) >>> ((Int32.toUInt32 24) &&& Int32.toUInt32 31)).toInt32 &&& 255), .int 16, .ref 11]) jF_26_31 rfl rfl) ?_
      refine Eq.trans (jr_sti (q := 16) jF_26_32 (j_aok_arl (FD.r1 (fq_32 a1 a2 a3 a4 a5)) (by decide)) (by decide +kernel)) ?_
      refine Eq.trans (jr_s (pc2 := 34) (lv2 := [(2, .int 24), (0, .ref 10), (1, .int a5)]) (st2 := [.ref 10]) jF_26_33 rfl rfl) ?_
      refine Eq.trans (jr_s (pc2 := 35) (lv2 := [(2, .int 24), (0, .ref 10), (1, .int a5)]) (st2 := [.ref 10, .ref 10]) jF_26_34 rfl rfl) ?_
      refine Eq.trans (jr_gf (v := .int 16) jF_26_35 (FD.g3 (fq_33 a1 a2 a3 a4 a5))) ?_
      refine Eq.trans (jr_s (pc2 := 39) (lv2 := [(2, .int 24), (0, .ref 10), (1, .int a5)]) (st2 := [.int 1, .int 16, .ref 10]) jF_26_38 rfl rfl) ?_
      refine Eq.trans (jr_s (pc2 := 40) (lv2 := [(2, .int 24), (0, .ref 10), (1, .int a5)]) (st2 := [.int 17, .ref 10]) jF_26_39 rfl rfl) ?_
      refine Eq.trans (jr_pf jF_26_40 (FD.o1 (fq_33 a1 a2 a3 a4 a5)) rfl) ?_
      refine Eq.trans (jr_s (pc2 := 46) (lv2 := [(2, .int 16), (0, .ref 10), (1, .int a5)]) (st2 := []) jF_26_43 rfl rfl) ?_
      refine Eq.trans (jr_s (pc2 := 3) (lv2 := [(2, .int 16), (0, .ref 10), (1, .int a5)]) (st2 := []) jF_26_46 rfl rfl) ?_
      refine Eq.trans (jr_s (pc2 := 4) (lv2 := [(2, .int 16), (0, .ref 10), (1, .int a5)]) (st2 := [.int 16]) jF_26_3 rfl rfl) ?_
      refine Eq.trans (jr_if0 jF_26_4 (by decide +kernel)) ?_
      refine Eq.trans (jr_s (pc2 := 8) (lv2 := [(2, .int 16), (0, .ref 10), (1, .int a5)]) (st2 := [.ref 10]) jF_26_7 rfl rfl) ?_
      refine Eq.trans (jr_gf (v := .int 17) jF_26_8 (FD.g3 (fq_34 a1 a2 a3 a4 a5))) ?_
      refine Eq.trans (jr_s (pc2 := 14) (lv2 := [(2, .int 16), (0, .ref 10), (1, .int a5)]) (st2 := [.int 1600, .int 17]) jF_26_11 rfl rfl) ?_
      refine Eq.trans (jr_ic0 jF_26_14 (by decide +kernel)) ?_
      refine Eq.trans (jr_s (pc2 := 18) (lv2 := [(2, .int 16), (0, .ref 10), (1, .int a5)]) (st2 := [.ref 10]) jF_26_17 rfl rfl) ?_
      refine Eq.trans (jr_gf (v := .ref 11) jF_26_18 (FD.g2 (fq_34 a1 a2 a3 a4 a5))) ?_
      refine Eq.trans (jr_s (pc2 := 22) (lv2 := [(2, .int 16), (0, .ref 10), (1, .int a5)]) (st2 := [.ref 10, .ref 11]) jF_26_21 rfl rfl) ?_
      refine Eq.trans (jr_gf (v := .int 17) jF_26_22 (FD.g3 (fq_34 a1 a2 a3 a4 a5))) ?_
      refine Eq.trans (jr_s (pc2 := 26) (lv2 := [(2, .int 16), (0, .ref 10), (1, .int a5)]) (st2 := [.int a5, .int 17, .ref 11]) jF_26_25 rfl rfl) ?_
      refine Eq.trans (jr_s (pc2 := 27) (lv2 := [(2, .int 16), (0, .ref 10), (1, .int a5)]) (st2 := [.int 16, .int a5, .int 17, .ref 11]) jF_26_26 rfl rfl) ?_
      refine Eq.trans (jr_s (pc2 := 28) (lv2 := [(2, .int 16), (0, .ref 10), (1, .int a5)]) (st2 := [.int ((Int32.toUInt32 a5) >>> ((Int32.toUInt32 16) &&& Int32.toUInt32 31)).toInt32, .int 17, .ref 11]) jF_26_27 rfl rfl) ?_
      refine Eq.trans (jr_s (pc2 := 31) (lv2 := [(2, .int 16), (0, .ref 10), (1, .int a5)]) (st2 := [.int 255, .int ((Int32.toUInt32 a5) >>> ((Int32.toUInt32 16) &&& Int32.toUInt32 31)).toInt32, .int 17, .ref 11]) jF_26_28 rfl rfl) ?_
      refine Eq.trans (jr_s (pc2 := 32) (lv2 := [(2, .int 16), (0, .ref 10), (1, .int a5)]) (st2 := [.int (((Int32.toUInt32 a5) >>> ((Int32.toUInt32 16) &&& Int32.toUInt32 31)).toInt32 &&& 255), .int 17, .ref 11]) jF_26_31 rfl rfl) ?_
      refine Eq.trans (jr_sti (q := 17) jF_26_32 (j_aok_arl (FD.r1 (fq_34 a1 a2 a3 a4 a5)) (by decide)) (by decide +kernel)) ?_
      refine Eq.trans (jr_s (pc2 := 34) (lv2 := [(2, .int 16), (0, .ref 10), (1, .int a5)]) (st2 := [.ref 10]) jF_26_33 rfl rfl) ?_
      refine Eq.trans (jr_s (pc2 := 35) (lv2 := [(2, .int 16), (0, .ref 10), (1, .int a5)]) (st2 := [.ref 10, .ref 10]) jF_26_34 rfl rfl) ?_
      refine Eq.trans (jr_gf (v := .int 17) jF_26_35 (FD.g3 (fq_35 a1 a2 a3 a4 a5))) ?_
      refine Eq.trans (jr_s (pc2 := 39) (lv2 := [(2, .int 16), (0, .ref 10), (1, .int a5)]) (st2 := [.int 1, .int 17, .ref 10]) jF_26_38 rfl rfl) ?_
      refine Eq.trans (jr_s (pc2 := 40) (lv2 := [(2, .int 16), (0, .ref 10), (1, .int a5)]) (st2 := [.int 18, .ref 10]) jF_26_39 rfl rfl) ?_
      refine Eq.trans (jr_pf jF_26_40 (FD.o1 (fq_35 a1 a2 a3 a4 a5)) rfl) ?_
      refine Eq.trans (jr_s (pc2 := 46) (lv2 := [(2, .int 8), (0, .ref 10), (1, .int a5)]) (st2 := []) jF_26_43 rfl rfl) ?_
      refine Eq.trans (jr_s (pc2 := 3) (lv2 := [(2, .int 8), (0, .ref 10), (1, .int a5)]) (st2 := []) jF_26_46 rfl rfl) ?_
      refine Eq.trans (jr_s (pc2 := 4) (lv2 := [(2, .int 8), (0, .ref 10), (1, .int a5)]) (st2 := [.int 8]) jF_26_3 rfl rfl) ?_
      refine Eq.trans (jr_if0 jF_26_4 (by decide +kernel)) ?_
      refine Eq.trans (jr_s (pc2 := 8) (lv2 := [(2, .int 8), (0, .ref 10), (1, .int a5)]) (st2 := [.ref 10]) jF_26_7 rfl rfl) ?_
      refine Eq.trans (jr_gf (v := .int 18) jF_26_8 (FD.g3 (fq_36 a1 a2 a3 a4 a5))) ?_
      refine Eq.trans (jr_s (pc2 := 14) (lv2 := [(2, .int 8), (0, .ref 10), (1, .int a5)]) (st2 := [.int 1600, .int 18]) jF_26_11 rfl rfl) ?_
      refine Eq.trans (jr_ic0 jF_26_14 (by decide +kernel)) ?_
      refine Eq.trans (jr_s (pc2 := 18) (lv2 := [(2, .int 8), (0, .ref 10), (1, .int a5)]) (st2 := [.ref 10]) jF_26_17 rfl rfl) ?_
      refine Eq.trans (jr_gf (v := .ref 11) jF_26_18 (FD.g2 (fq_36 a1 a2 a3 a4 a5))) ?_
      refine Eq.trans (jr_s (pc2 := 22) (lv2 := [(2, .int 8), (0, .ref 10), (1, .int a5)]) (st2 := [.ref 10, .ref 11]) jF_26_21 rfl rfl) ?_
      refine Eq.trans (jr_gf (v := .int 18) jF_26_22 (FD.g3 (fq_36 a1 a2 a3 a4 a5))) ?_
      refine Eq.trans (jr_s (pc2 := 26) (lv2 := [(2, .int 8), (0, .ref 10), (1, .int a5)]) (st2 := [.int a5, .int 18, .ref 11]) jF_26_25 rfl rfl) ?_
      refine Eq.trans (jr_s (pc2 := 27) (lv2 := [(2, .int 8), (0, .ref 10), (1, .int a5)]) (st2 := [.int 8, .int a5, .int 18, .ref 11]) jF_26_26 rfl rfl) ?_
      refine Eq.trans (jr_s (pc2 := 28) (lv2 := [(2, .int 8), (0, .ref 10), (1, .int a5)]) (st2 := [.int ((Int32.toUInt32 a5) >>> ((Int32.toUInt32 8) &&& Int32.toUInt32 31)).toInt32, .int 18, .ref 11]) jF_26_27 rfl rfl) ?_
      refine Eq.trans (jr_s (pc2 := 31) (lv2 := [(2, .int 8), (0, .ref 10), (1, .int a5)]) (st2 := [.int 255, .int ((Int32.toUInt32 a5) >>> ((Int32.toUInt32 8) &&& Int32.toUInt32 31)).toInt32, .int 18, .ref 11]) jF_26_28 rfl rfl) ?_
      refine Eq.trans (jr_s (pc2 := 32) (lv2 := [(2, .int 8), (0, .ref 10), (1, .int a5)]) (st2 := [.int (((Int32.toUInt32 a5) >>> ((Int32.toUInt32 8) &&& Int32.toUInt32 31)).toInt32 &&& 255), .int 18, .ref 11]) jF_26_31 rfl rfl) ?_
      refine Eq.trans (jr_sti (q := 18) jF_26_32 (j_aok_arl (FD.r1 (fq_36 a1 a2 a3 a4 a5)) (by decide)) (by decide +kernel)) ?_
      refine Eq.trans (jr_s (pc2 := 34) (lv2 := [(2, .int 8), (0, .ref 10), (1, .int a5)]) (st2 := [.ref 10]) jF_26_33 rfl rfl) ?_
      refine Eq.trans (jr_s (pc2 := 35) (lv2 := [(2, .int 8), (0, .ref 10), (1, .int a5)]) (st2 := [.ref 10, .ref 10]) jF_26_34 rfl rfl) ?_
      refine Eq.trans (jr_gf (v := .int 18) jF_26_35 (FD.g3 (fq_37 a1 a2 a3 a4 a5))) ?_
      refine Eq.trans (jr_s (pc2 := 39) (lv2 := [(2, .int 8), (0, .ref 10), (1, .int a5)]) (st2 := [.int 1, .int 18, .ref 10]) jF_26_38 rfl rfl) ?_
      refine Eq.trans (jr_s (pc2 := 40) (lv2 := [(2, .int 8), (0, .ref 10), (1, .int a5)]) (st2 := [.int 19, .ref 10]) jF_26_39 rfl rfl) ?_
      refine Eq.trans (jr_pf jF_26_40 (FD.o1 (fq_37 a1 a2 a3 a4 a5)) rfl) ?_
      refine Eq.trans (jr_s (pc2 := 46) (lv2 := [(2, .int 0), (0, .ref 10), (1, .int a5)]) (st2 := []) jF_26_43 rfl rfl) ?_
      refine Eq.trans (jr_s (pc2 := 3) (lv2 := [(2, .int 0), (0, .ref 10), (1, .int a5)]) (st2 := []) jF_26_46 rfl rfl) ?_
      refine Eq.trans (jr_s (pc2 := 4) (lv2 := [(2, .int 0), (0, .ref 10), (1, .int a5)]) (st2 := [.int 0]) jF_26_3 rfl rfl) ?_
      refine Eq.trans (jr_if0 jF_26_4 (by decide +kernel)) ?_
      refine Eq.trans (jr_s (pc2 := 8) (lv2 := [(2, .int 0), (0, .ref 10), (1, .int a5)]) (st2 := [.ref 10]) jF_26_7 rfl rfl) ?_
      refine Eq.trans (jr_gf (v := .int 19) jF_26_8 (FD.g3 (fq_38 a1 a2 a3 a4 a5))) ?_
      refine Eq.trans (jr_s (pc2 := 14) (lv2 := [(2, .int 0), (0, .ref 10), (1, .int a5)]) (st2 := [.int 1600, .int 19]) jF_26_11 rfl rfl) ?_
      refine Eq.trans (jr_ic0 jF_26_14 (by decide +kernel)) ?_
      refine Eq.trans (jr_s (pc2 := 18) (lv2 := [(2, .int 0), (0, .ref 10), (1, .int a5)]) (st2 := [.ref 10]) jF_26_17 rfl rfl) ?_
      refine Eq.trans (jr_gf (v := .ref 11) jF_26_18 (FD.g2 (fq_38 a1 a2 a3 a4 a5))) ?_
      refine Eq.trans (jr_s (pc2 := 22) (lv2 := [(2, .int 0), (0, .ref 10), (1, .int a5)]) (st2 := [.ref 10, .ref 11]) jF_26_21 rfl rfl) ?_
      refine Eq.trans (jr_gf (v := .int 19) jF_26_22 (FD.g3 (fq_38 a1 a2 a3 a4 a5))) ?_
      refine Eq.trans (jr_s (pc2 := 26) (lv2 := [(2, .int 0), (0, .ref 10), (1, .int a5)]) (st2 := [.int a5, .int 19, .ref 11]) jF_26_25 rfl rfl) ?_
      refine Eq.trans (jr_s (pc2 := 27) (lv2 := [(2, .int 0), (0, .ref 10), (1, .int a5)]) (st2 := [.int 0, .int a5, .int 19, .ref 11]) jF_26_26 rfl rfl) ?_
      refine Eq.trans (jr_s (pc2 := 28) (lv2 := [(2, .int 0), (0, .ref 10), (1, .int a5)]) (st2 := [.int ((Int32.toUInt32 a5) >>> ((Int32.toUInt32 0) &&& Int32.toUInt32 31)).toInt32, .int 19, .ref 11]) jF_26_27 rfl rfl) ?_
      refine Eq.trans (jr_s (pc2 := 31) (lv2 := [(2, .int 0), (0, .ref 10), (1, .int a5)]) (st2 := [.int 255, .int ((Int32.toUInt32 a5) >>> ((Int32.toUInt32 0) &&& Int32.toUInt32 31)).toInt32, .int 19, .ref 11]) jF_26_28 rfl rfl) ?_
      refine Eq.trans (jr_s (pc2 := 32) (lv2 := [(2, .int 0), (0, .ref 10), (1, .int a5)]) (st2 := [.int (((Int32.toUInt32 a5) >>> ((Int32.toUInt32 0) &&& Int32.toUInt32 31)).toInt32 &&& 255), .int 19, .ref 11]) jF_26_31 rfl rfl) ?_
      refine Eq.trans (jr_sti (q := 19) jF_26_32 (j_aok_arl (FD.r1 (fq_38 a1 a2 a3 a4 a5)) (by decide)) (by decide +kernel)) ?_
      refine Eq.trans (jr_s (pc2 := 34) (lv2 := [(2, .int 0), (0, .ref 10), (1, .int a5)]) (st2 := [.ref 10]) jF_26_33 rfl rfl) ?_
      refine Eq.trans (jr_s (pc2 := 35) (lv2 := [(2, .int 0), (0, .ref 10), (1, .int a5)]) (st2 := [.ref 10, .ref 10]) jF_26_34 rfl rfl) ?_
      refine Eq.trans (jr_gf (v := .int 19) jF_26_35 (FD.g3 (fq_39 a1 a2 a3 a4 a5))) ?_
      refine Eq.trans (jr_s (pc2 := 39) (lv2 := [(2, .int 0), (0, .ref 10), (1, .int a5)]) (st2 := [.int 1, .int 19, .ref 10]) jF_26_38 rfl rfl) ?_
      refine Eq.trans (jr_s (pc2 := 40) (lv2 := [(2, .int 0), (0, .ref 10), (1, .int a5)]) (st2 := [.int 20, .ref 10]) jF_26_39 rfl rfl) ?_
      refine Eq.trans (jr_pf jF_26_40 (FD.o1 (fq_39 a1 a2 a3 a4 a5)) rfl) ?_
      refine Eq.trans (jr_s (pc2 := 46) (lv2 := [(2, .int (-8)), (0, .ref 10), (1, .int a5)]) (st2 := []) jF_26_43 rfl rfl) ?_
      refine Eq.trans (jr_s (pc2 := 3) (lv2 := [(2, .int (-8)), (0, .ref 10), (1, .int a5)]) (st2 := []) jF_26_46 rfl rfl) ?_
      refine Eq.trans (jr_s (pc2 := 4) (lv2 := [(2, .int (-8)), (0, .ref 10), (1, .int a5)]) (st2 := [.int (-8)]) jF_26_3 rfl rfl) ?_
      refine Eq.trans (jr_if1 jF_26_4 (by decide +kernel)) ?_
      exact jr_rr jF_26_49
    refine Eq.trans (jr_s (pc2 := 65) (lv2 := [(0, .ref 9), (1, .int a1), (2, .int a2), (3, .int a3), (4, .int a4), (5, .int a5)]) (st2 := [.ref 9]) jF_24_64 rfl rfl) ?_
    refine Eq.trans (jr_gf (v := .ref 10) jF_24_65 (FD.g1 (fq_40 a1 a2 a3 a4 a5))) ?_
    refine Eq.trans (jr_gf (v := .int 20) jF_24_68 (FD.g3 (fq_40 a1 a2 a3 a4 a5))) ?_
    exact jr_ri jF_24_71 rfl
  · refine Eq.trans (jr_s (pc2 := 1) (lv2 := [(0, .ref 117), (1, .int a1), (2, .int a2), (3, .int a3), (4, .int a4), (5, .int a5)]) (st2 := [.ref 117]) jF_212_0 rfl rfl) ?_
    refine Eq.trans (jr_gf (v := .int 0) jF_212_1 (FD.g5 (fq_40 a1 a2 a3 a4 a5))) ?_
    refine Eq.trans (jr_s (pc2 := 6) (lv2 := [(0, .ref 117), (1, .int a1), (2, .int a2), (3, .int a3), (4, .int a4), (5, .int a5)]) (st2 := [.int 20, .int 0]) jF_212_4 rfl rfl) ?_
    refine Eq.trans (jr_s (pc2 := 7) (lv2 := [(0, .ref 117), (1, .int a1), (2, .int a2), (3, .int a3), (4, .int a4), (5, .int a5)]) (st2 := [.int 20]) jF_212_6 rfl rfl) ?_
    refine Eq.trans (jr_s (pc2 := 10) (lv2 := [(0, .ref 117), (1, .int a1), (2, .int a2), (3, .int a3), (4, .int a4), (5, .int a5)]) (st2 := [.int 1600, .int 20]) jF_212_7 rfl rfl) ?_
    refine Eq.trans (jr_ic1 jF_212_10 (by decide +kernel)) ?_
    refine Eq.trans (jr_s (pc2 := 26) (lv2 := [(0, .ref 117), (1, .int a1), (2, .int a2), (3, .int a3), (4, .int a4), (5, .int a5)]) (st2 := [.int 0]) jF_212_25 rfl rfl) ?_
    refine Eq.trans (jr_s (pc2 := 28) (lv2 := [(6, .int 0), (0, .ref 117), (1, .int a1), (2, .int a2), (3, .int a3), (4, .int a4), (5, .int a5)]) (st2 := []) jF_212_26 rfl rfl) ?_
    refine Eq.trans (jr_s (pc2 := 30) (lv2 := [(6, .int 0), (0, .ref 117), (1, .int a1), (2, .int a2), (3, .int a3), (4, .int a4), (5, .int a5)]) (st2 := [.int 0]) jF_212_28 rfl rfl) ?_
    refine Eq.trans (jr_s (pc2 := 32) (lv2 := [(6, .int 0), (0, .ref 117), (1, .int a1), (2, .int a2), (3, .int a3), (4, .int a4), (5, .int a5)]) (st2 := [.int 20, .int 0]) jF_212_30 rfl rfl) ?_
    refine Eq.trans (jr_ic0 jF_212_32 (by decide +kernel)) ?_
    refine Eq.trans (jr_s (pc2 := 37) (lv2 := [(6, .int 0), (0, .ref 117), (1, .int a1), (2, .int a2), (3, .int a3), (4, .int a4), (5, .int a5)]) (st2 := [.int 0]) jF_212_35 rfl rfl) ?_
    refine Eq.trans (jr_s (pc2 := 38) (lv2 := [(6, .int 0), (0, .ref 117), (1, .int a1), (2, .int a2), (3, .int a3), (4, .int a4), (5, .int a5)]) (st2 := [.int 4, .int 0]) jF_212_37 rfl rfl) ?_
    refine Eq.trans (jr_ic0 jF_212_38 (by decide +kernel)) ?_
    refine Eq.trans (jr_s (pc2 := 42) (lv2 := [(6, .int 0), (0, .ref 117), (1, .int a1), (2, .int a2), (3, .int a3), (4, .int a4), (5, .int a5)]) (st2 := [.int a1]) jF_212_41 rfl rfl) ?_
    refine Eq.trans (jr_s (pc2 := 81) (lv2 := [(6, .int 0), (0, .ref 117), (1, .int a1), (2, .int a2), (3, .int a3), (4, .int a4), (5, .int a5)]) (st2 := [.int a1]) jF_212_42 rfl rfl) ?_
    refine Eq.trans (jr_s (pc2 := 83) (lv2 := [(7, .int a1), (6, .int 0), (0, .ref 117), (1, .int a1), (2, .int a2), (3, .int a3), (4, .int a4), (5, .int a5)]) (st2 := []) jF_212_81 rfl rfl) ?_
    refine Eq.trans (jr_s (pc2 := 84) (lv2 := [(7, .int a1), (6, .int 0), (0, .ref 117), (1, .int a1), (2, .int a2), (3, .int a3), (4, .int a4), (5, .int a5)]) (st2 := [.ref 117]) jF_212_83 rfl rfl) ?_
    refine Eq.trans (jr_gf (v := .ref 118) jF_212_84 (FD.g4 (fq_40 a1 a2 a3 a4 a5))) ?_
    refine Eq.trans (jr_s (pc2 := 88) (lv2 := [(7, .int a1), (6, .int 0), (0, .ref 117), (1, .int a1), (2, .int a2), (3, .int a3), (4, .int a4), (5, .int a5)]) (st2 := [.ref 117, .ref 118]) jF_212_87 rfl rfl) ?_
    refine Eq.trans (jr_gf (v := .int 0) jF_212_88 (FD.g5 (fq_40 a1 a2 a3 a4 a5))) ?_
    refine Eq.trans (jr_s (pc2 := 93) (lv2 := [(7, .int a1), (6, .int 0), (0, .ref 117), (1, .int a1), (2, .int a2), (3, .int a3), (4, .int a4), (5, .int a5)]) (st2 := [.int a1, .int 0, .ref 118]) jF_212_91 rfl rfl) ?_
    refine Eq.trans (jr_s (pc2 := 95) (lv2 := [(7, .int a1), (6, .int 0), (0, .ref 117), (1, .int a1), (2, .int a2), (3, .int a3), (4, .int a4), (5, .int a5)]) (st2 := [.int 8, .int a1, .int 0, .ref 118]) jF_212_93 rfl rfl) ?_
    refine Eq.trans (jr_s (pc2 := 96) (lv2 := [(7, .int a1), (6, .int 0), (0, .ref 117), (1, .int a1), (2, .int a2), (3, .int a3), (4, .int a4), (5, .int a5)]) (st2 := [.int 3, .int 8, .int a1, .int 0, .ref 118]) jF_212_95 rfl rfl) ?_
    refine Eq.trans (jr_s (pc2 := 98) (lv2 := [(7, .int a1), (6, .int 0), (0, .ref 117), (1, .int a1), (2, .int a2), (3, .int a3), (4, .int a4), (5, .int a5)]) (st2 := [.int 0, .int 3, .int 8, .int a1, .int 0, .ref 118]) jF_212_96 rfl rfl) ?_
    refine Eq.trans (jr_s (pc2 := 99) (lv2 := [(7, .int a1), (6, .int 0), (0, .ref 117), (1, .int a1), (2, .int a2), (3, .int a3), (4, .int a4), (5, .int a5)]) (st2 := [.int 4, .int 0, .int 3, .int 8, .int a1, .int 0, .ref 118]) jF_212_98 rfl rfl) ?_
    refine Eq.trans (jr_s (pc2 := 100) (lv2 := [(7, .int a1), (6, .int 0), (0, .ref 117), (1, .int a1), (2, .int a2), (3, .int a3), (4, .int a4), (5, .int a5)]) (st2 := [.int 0, .int 3, .int 8, .int a1, .int 0, .ref 118]) jF_212_99 rfl rfl) ?_
    refine Eq.trans (jr_s (pc2 := 101) (lv2 := [(7, .int a1), (6, .int 0), (0, .ref 117), (1, .int a1), (2, .int a2), (3, .int a3), (4, .int a4), (5, .int a5)]) (st2 := [.int 3, .int 8, .int a1, .int 0, .ref 118]) jF_212_100 rfl rfl) ?_
    refine Eq.trans (jr_s (pc2 := 102) (lv2 := [(7, .int a1), (6, .int 0), (0, .ref 117), (1, .int a1), (2, .int a2), (3, .int a3), (4, .int a4), (5, .int a5)]) (st2 := [.int 24, .int a1, .int 0, .ref 118]) jF_212_101 rfl rfl) ?_
    refine Eq.trans (jr_s (pc2 := 103) (lv2 := [(7, .int a1), (6, .int 0), (0, .ref 117), (1, .int a1), (2, .int a2), (3, .int a3), (4, .int a4), (5, .int a5)]) (st2 := [.int (a1 >>> ((24 : Int32) &&& 31)), .int 0, .ref 118]) jF_212_102 rfl rfl) ?_
    refine Eq.trans (jr_s (pc2 := 106) (lv2 := [(7, .int a1), (6, .int 0), (0, .ref 117), (1, .int a1), (2, .int a2), (3, .int a3), (4, .int a4), (5, .int a5)]) (st2 := [.int 255, .int (a1 >>> ((24 : Int32) &&& 31)), .int 0, .ref 118]) jF_212_103 rfl rfl) ?_
    refine Eq.trans (jr_s (pc2 := 107) (lv2 := [(7, .int a1), (6, .int 0), (0, .ref 117), (1, .int a1), (2, .int a2), (3, .int a3), (4, .int a4), (5, .int a5)]) (st2 := [.int ((a1 >>> ((24 : Int32) &&& 31)) &&& 255), .int 0, .ref 118]) jF_212_106 rfl rfl) ?_
    refine Eq.trans (jr_sti (q := 0) jF_212_107 (j_aok_arl (FD.r2 (fq_40 a1 a2 a3 a4 a5)) (by decide)) (by decide +kernel)) ?_
    refine Eq.trans (jr_s (pc2 := 109) (lv2 := [(7, .int a1), (6, .int 0), (0, .ref 117), (1, .int a1), (2, .int a2), (3, .int a3), (4, .int a4), (5, .int a5)]) (st2 := [.ref 117]) jF_212_108 rfl rfl) ?_
    refine Eq.trans (jr_s (pc2 := 110) (lv2 := [(7, .int a1), (6, .int 0), (0, .ref 117), (1, .int a1), (2, .int a2), (3, .int a3), (4, .int a4), (5, .int a5)]) (st2 := [.ref 117, .ref 117]) jF_212_109 rfl rfl) ?_
    refine Eq.trans (jr_gf (v := .int 0) jF_212_110 (FD.g5 (fq_41 a1 a2 a3 a4 a5))) ?_
    refine Eq.trans (jr_s (pc2 := 114) (lv2 := [(7, .int a1), (6, .int 0), (0, .ref 117), (1, .int a1), (2, .int a2), (3, .int a3), (4, .int a4), (5, .int a5)]) (st2 := [.int 1, .int 0, .ref 117]) jF_212_113 rfl rfl) ?_
    refine Eq.trans (jr_s (pc2 := 115) (lv2 := [(7, .int a1), (6, .int 0), (0, .ref 117), (1, .int a1), (2, .int a2), (3, .int a3), (4, .int a4), (5, .int a5)]) (st2 := [.int 1, .ref 117]) jF_212_114 rfl rfl) ?_
    refine Eq.trans (jr_pf jF_212_115 (FD.o2 (fq_41 a1 a2 a3 a4 a5)) rfl) ?_
    refine Eq.trans (jr_s (pc2 := 121) (lv2 := [(6, .int 1), (7, .int a1), (0, .ref 117), (1, .int a1), (2, .int a2), (3, .int a3), (4, .int a4), (5, .int a5)]) (st2 := []) jF_212_118 rfl rfl) ?_
    refine Eq.trans (jr_s (pc2 := 28) (lv2 := [(6, .int 1), (7, .int a1), (0, .ref 117), (1, .int a1), (2, .int a2), (3, .int a3), (4, .int a4), (5, .int a5)]) (st2 := []) jF_212_121 rfl rfl) ?_
    refine Eq.trans (jr_s (pc2 := 30) (lv2 := [(6, .int 1), (7, .int a1), (0, .ref 117), (1, .int a1), (2, .int a2), (3, .int a3), (4, .int a4), (5, .int a5)]) (st2 := [.int 1]) jF_212_28 rfl rfl) ?_
    refine Eq.trans (jr_s (pc2 := 32) (lv2 := [(6, .int 1), (7, .int a1), (0, .ref 117), (1, .int a1), (2, .int a2), (3, .int a3), (4, .int a4), (5, .int a5)]) (st2 := [.int 20, .int 1]) jF_212_30 rfl rfl) ?_
    refine Eq.trans (jr_ic0 jF_212_32 (by decide +kernel)) ?_
    refine Eq.trans (jr_s (pc2 := 37) (lv2 := [(6, .int 1), (7, .int a1), (0, .ref 117), (1, .int a1), (2, .int a2), (3, .int a3), (4, .int a4), (5, .int a5)]) (st2 := [.int 1]) jF_212_35 rfl rfl) ?_
    refine Eq.trans (jr_s (pc2 := 38) (lv2 := [(6, .int 1), (7, .int a1), (0, .ref 117), (1, .int a1), (2, .int a2), (3, .int a3), (4, .int a4), (5, .int a5)]) (st2 := [.int 4, .int 1]) jF_212_37 rfl rfl) ?_
    refine Eq.trans (jr_ic0 jF_212_38 (by decide +kernel)) ?_
    refine Eq.trans (jr_s (pc2 := 42) (lv2 := [(6, .int 1), (7, .int a1), (0, .ref 117), (1, .int a1), (2, .int a2), (3, .int a3), (4, .int a4), (5, .int a5)]) (st2 := [.int a1]) jF_212_41 rfl rfl) ?_
    refine Eq.trans (jr_s (pc2 := 81) (lv2 := [(6, .int 1), (7, .int a1), (0, .ref 117), (1, .int a1), (2, .int a2), (3, .int a3), (4, .int a4), (5, .int a5)]) (st2 := [.int a1]) jF_212_42 rfl rfl) ?_
    refine Eq.trans (jr_s (pc2 := 83) (lv2 := [(7, .int a1), (6, .int 1), (0, .ref 117), (1, .int a1), (2, .int a2), (3, .int a3), (4, .int a4), (5, .int a5)]) (st2 := []) jF_212_81 rfl rfl) ?_
    refine Eq.trans (jr_s (pc2 := 84) (lv2 := [(7, .int a1), (6, .int 1), (0, .ref 117), (1, .int a1), (2, .int a2), (3, .int a3), (4, .int a4), (5, .int a5)]) (st2 := [.ref 117]) jF_212_83 rfl rfl) ?_
    refine Eq.trans (jr_gf (v := .ref 118) jF_212_84 (FD.g4 (fq_42 a1 a2 a3 a4 a5))) ?_
    refine Eq.trans (jr_s (pc2 := 88) (lv2 := [(7, .int a1), (6, .int 1), (0, .ref 117), (1, .int a1), (2, .int a2), (3, .int a3), (4, .int a4), (5, .int a5)]) (st2 := [.ref 117, .ref 118]) jF_212_87 rfl rfl) ?_
    refine Eq.trans (jr_gf (v := .int 1) jF_212_88 (FD.g5 (fq_42 a1 a2 a3 a4 a5))) ?_
    refine Eq.trans (jr_s (pc2 := 93) (lv2 := [(7, .int a1), (6, .int 1), (0, .ref 117), (1, .int a1), (2, .int a2), (3, .int a3), (4, .int a4), (5, .int a5)]) (st2 := [.int a1, .int 1, .ref 118]) jF_212_91 rfl rfl) ?_
    refine Eq.trans (jr_s (pc2 := 95) (lv2 := [(7, .int a1), (6, .int 1), (0, .ref 117), (1, .int a1), (2, .int a2), (3, .int a3), (4, .int a4), (5, .int a5)]) (st2 := [.int 8, .int a1, .int 1, .ref 118]) jF_212_93 rfl rfl) ?_
    refine Eq.trans (jr_s (pc2 := 96) (lv2 := [(7, .int a1), (6, .int 1), (0, .ref 117), (1, .int a1), (2, .int a2), (3, .int a3), (4, .int a4), (5, .int a5)]) (st2 := [.int 3, .int 8, .int a1, .int 1, .ref 118]) jF_212_95 rfl rfl) ?_
    refine Eq.trans (jr_s (pc2 := 98) (lv2 := [(7, .int a1), (6, .int 1), (0, .ref 117), (1, .int a1), (2, .int a2), (3, .int a3), (4, .int a4), (5, .int a5)]) (st2 := [.int 1, .int 3, .int 8, .int a1, .int 1, .ref 118]) jF_212_96 rfl rfl) ?_
    refine Eq.trans (jr_s (pc2 := 99) (lv2 := [(7, .int a1), (6, .int 1), (0, .ref 117), (1, .int a1), (2, .int a2), (3, .int a3), (4, .int a4), (5, .int a5)]) (st2 := [.int 4, .int 1, .int 3, .int 8, .int a1, .int 1, .ref 118]) jF_212_98 rfl rfl) ?_
    refine Eq.trans (jr_s (pc2 := 100) (lv2 := [(7, .int a1), (6, .int 1), (0, .ref 117), (1, .int a1), (2, .int a2), (3, .int a3), (4, .int a4), (5, .int a5)]) (st2 := [.int 1, .int 3, .int 8, .int a1, .int 1, .ref 118]) jF_212_99 rfl rfl) ?_
    refine Eq.trans (jr_s (pc2 := 101) (lv2 := [(7, .int a1), (6, .int 1), (0, .ref 117), (1, .int a1), (2, .int a2), (3, .int a3), (4, .int a4), (5, .int a5)]) (st2 := [.int 2, .int 8, .int a1, .int 1, .ref 118]) jF_212_100 rfl rfl) ?_
    refine Eq.trans (jr_s (pc2 := 102) (lv2 := [(7, .int a1), (6, .int 1), (0, .ref 117), (1, .int a1), (2, .int a2), (3, .int a3), (4, .int a4), (5, .int a5)]) (st2 := [.int 16, .int a1, .int 1, .ref 118]) jF_212_101 rfl rfl) ?_
    refine Eq.trans (jr_s (pc2 := 103) (lv2 := [(7, .int a1), (6, .int 1), (0, .ref 117), (1, .int a1), (2, .int a2), (3, .int a3), (4, .int a4), (5, .int a5)]) (st2 := [.int (a1 >>> ((16 : Int32) &&& 31)), .int 1, .ref 118]) jF_212_102 rfl rfl) ?_
    refine Eq.trans (jr_s (pc2 := 106) (lv2 := [(7, .int a1), (6, .int 1), (0, .ref 117), (1, .int a1), (2, .int a2), (3, .int a3), (4, .int a4), (5, .int a5)]) (st2 := [.int 255, .int (a1 >>> ((16 : Int32) &&& 31)), .int 1, .ref 118]) jF_212_103 rfl rfl) ?_
    refine Eq.trans (jr_s (pc2 := 107) (lv2 := [(7, .int a1), (6, .int 1), (0, .ref 117), (1, .int a1), (2, .int a2), (3, .int a3), (4, .int a4), (5, .int a5)]) (st2 := [.int ((a1 >>> ((16 : Int32) &&& 31)) &&& 255), .int 1, .ref 118]) jF_212_106 rfl rfl) ?_
    refine Eq.trans (jr_sti (q := 1) jF_212_107 (j_aok_arl (FD.r2 (fq_42 a1 a2 a3 a4 a5)) (by decide)) (by decide +kernel)) ?_
    refine Eq.trans (jr_s (pc2 := 109) (lv2 := [(7, .int a1), (6, .int 1), (0, .ref 117), (1, .int a1), (2, .int a2), (3, .int a3), (4, .int a4), (5, .int a5)]) (st2 := [.ref 117]) jF_212_108 rfl rfl) ?_
    refine Eq.trans (jr_s (pc2 := 110) (lv2 := [(7, .int a1), (6, .int 1), (0, .ref 117), (1, .int a1), (2, .int a2), (3, .int a3), (4, .int a4), (5, .int a5)]) (st2 := [.ref 117, .ref 117]) jF_212_109 rfl rfl) ?_
    refine Eq.trans (jr_gf (v := .int 1) jF_212_110 (FD.g5 (fq_43 a1 a2 a3 a4 a5))) ?_
    refine Eq.trans (jr_s (pc2 := 114) (lv2 := [(7, .int a1), (6, .int 1), (0, .ref 117), (1, .int a1), (2, .int a2), (3, .int a3), (4, .int a4), (5, .int a5)]) (st2 := [.int 1, .int 1, .ref 117]) jF_212_113 rfl rfl) ?_
    refine Eq.trans (jr_s (pc2 := 115) (lv2 := [(7, .int a1), (6, .int 1), (0, .ref 117), (1, .int a1), (2, .int a2), (3, .int a3), (4, .int a4), (5, .int a5)]) (st2 := [.int 2, .ref 117]) jF_212_114 rfl rfl) ?_
    refine Eq.trans (jr_pf jF_212_115 (FD.o2 (fq_43 a1 a2 a3 a4 a5)) rfl) ?_
    refine Eq.trans (jr_s (pc2 := 121) (lv2 := [(6, .int 2), (7, .int a1), (0, .ref 117), (1, .int a1), (2, .int a2), (3, .int a3), (4, .int a4), (5, .int a5)]) (st2 := []) jF_212_118 rfl rfl) ?_
    refine Eq.trans (jr_s (pc2 := 28) (lv2 := [(6, .int 2), (7, .int a1), (0, .ref 117), (1, .int a1), (2, .int a2), (3, .int a3), (4, .int a4), (5, .int a5)]) (st2 := []) jF_212_121 rfl rfl) ?_
    refine Eq.trans (jr_s (pc2 := 30) (lv2 := [(6, .int 2), (7, .int a1), (0, .ref 117), (1, .int a1), (2, .int a2), (3, .int a3), (4, .int a4), (5, .int a5)]) (st2 := [.int 2]) jF_212_28 rfl rfl) ?_
    refine Eq.trans (jr_s (pc2 := 32) (lv2 := [(6, .int 2), (7, .int a1), (0, .ref 117), (1, .int a1), (2, .int a2), (3, .int a3), (4, .int a4), (5, .int a5)]) (st2 := [.int 20, .int 2]) jF_212_30 rfl rfl) ?_
    refine Eq.trans (jr_ic0 jF_212_32 (by decide +kernel)) ?_
    refine Eq.trans (jr_s (pc2 := 37) (lv2 := [(6, .int 2), (7, .int a1), (0, .ref 117), (1, .int a1), (2, .int a2), (3, .int a3), (4, .int a4), (5, .int a5)]) (st2 := [.int 2]) jF_212_35 rfl rfl) ?_
    refine Eq.trans (jr_s (pc2 := 38) (lv2 := [(6, .int 2), (7, .int a1), (0, .ref 117), (1, .int a1), (2, .int a2), (3, .int a3), (4, .int a4), (5, .int a5)]) (st2 := [.int 4, .int 2]) jF_212_37 rfl rfl) ?_
    refine Eq.trans (jr_ic0 jF_212_38 (by decide +kernel)) ?_
    refine Eq.trans (jr_s (pc2 := 42) (lv2 := [(6, .int 2), (7, .int a1), (0, .ref 117), (1, .int a1), (2, .int a2), (3, .int a3), (4, .int a4), (5, .int a5)]) (st2 := [.int a1]) jF_212_41 rfl rfl) ?_
    refine Eq.trans (jr_s (pc2 := 81) (lv2 := [(6, .int 2), (7, .int a1), (0, .ref 117), (1, .int a1), (2, .int a2), (3, .int a3), (4, .int a4), (5, .int a5)]) (st2 := [.int a1]) jF_212_42 rfl rfl) ?_
    refine Eq.trans (jr_s (pc2 := 83) (lv2 := [(7, .int a1), (6, .int 2), (0, .ref 117), (1, .int a1), (2, .int a2), (3, .int a3), (4, .int a4), (5, .int a5)]) (st2 := []) jF_212_81 rfl rfl) ?_
    refine Eq.trans (jr_s (pc2 := 84) (lv2 := [(7, .int a1), (6, .int 2), (0, .ref 117), (1, .int a1), (2, .int a2), (3, .int a3), (4, .int a4), (5, .int a5)]) (st2 := [.ref 117]) jF_212_83 rfl rfl) ?_
    refine Eq.trans (jr_gf (v := .ref 118) jF_212_84 (FD.g4 (fq_44 a1 a2 a3 a4 a5))) ?_
    refine Eq.trans (jr_s (pc2 := 88) (lv2 := [(7, .int a1), (6, .int 2), (0, .ref 117), (1, .int a1), (2, .int a2), (3, .int a3), (4, .int a4), (5, .int a5)]) (st2 := [.ref 117, .ref 118]) jF_212_87 rfl rfl) ?_
    refine Eq.trans (jr_gf (v := .int 2) jF_212_88 (FD.g5 (fq_44 a1 a2 a3 a4 a5))) ?_
    refine Eq.trans (jr_s (pc2 := 93) (lv2 := [(7, .int a1), (6, .int 2), (0, .ref 117), (1, .int a1), (2, .int a2), (3, .int a3), (4, .int a4), (5, .int a5)]) (st2 := [.int a1, .int 2, .ref 118]) jF_212_91 rfl rfl) ?_
    refine Eq.trans (jr_s (pc2 := 95) (lv2 := [(7, .int a1), (6, .int 2), (0, .ref 117), (1, .int a1), (2, .int a2), (3, .int a3), (4, .int a4), (5, .int a5)]) (st2 := [.int 8, .int a1, .int 2, .ref 118]) jF_212_93 rfl rfl) ?_
    refine Eq.trans (jr_s (pc2 := 96) (lv2 := [(7, .int a1), (6, .int 2), (0, .ref 117), (1, .int a1), (2, .int a2), (3, .int a3), (4, .int a4), (5, .int a5)]) (st2 := [.int 3, .int 8, .int a1, .int 2, .ref 118]) jF_212_95 rfl rfl) ?_
    refine Eq.trans (jr_s (pc2 := 98) (lv2 := [(7, .int a1), (6, .int 2), (0, .ref 117), (1, .int a1), (2, .int a2), (3, .int a3), (4, .int a4), (5, .int a5)]) (st2 := [.int 2, .int 3, .int 8, .int a1, .int 2, .ref 118]) jF_212_96 rfl rfl) ?_
    refine Eq.trans (jr_s (pc2 := 99) (lv2 := [(7, .int a1), (6, .int 2), (0, .ref 117), (1, .int a1), (2, .int a2), (3, .int a3), (4, .int a4), (5, .int a5)]) (st2 := [.int 4, .int 2, .int 3, .int 8, .int a1, .int 2, .ref 118]) jF_212_98 rfl rfl) ?_
    refine Eq.trans (jr_s (pc2 := 100) (lv2 := [(7, .int a1), (6, .int 2), (0, .ref 117), (1, .int a1), (2, .int a2), (3, .int a3), (4, .int a4), (5, .int a5)]) (st2 := [.int 2, .int 3, .int 8, .int a1, .int 2, .ref 118]) jF_212_99 rfl rfl) ?_
    refine Eq.trans (jr_s (pc2 := 101) (lv2 := [(7, .int a1), (6, .int 2), (0, .ref 117), (1, .int a1), (2, .int a2), (3, .int a3), (4, .int a4), (5, .int a5)]) (st2 := [.int 1, .int 8, .int a1, .int 2, .ref 118]) jF_212_100 rfl rfl) ?_
    refine Eq.trans (jr_s (pc2 := 102) (lv2 := [(7, .int a1), (6, .int 2), (0, .ref 117), (1, .int a1), (2, .int a2), (3, .int a3), (4, .int a4), (5, .int a5)]) (st2 := [.int 8, .int a1, .int 2, .ref 118]) jF_212_101 rfl rfl) ?_
    refine Eq.trans (jr_s (pc2 := 103) (lv2 := [(7, .int a1), (6, .int 2), (0, .ref 117), (1, .int a1), (2, .int a2), (3, .int a3), (4, .int a4), (5, .int a5)]) (st2 := [.int (a1 >>> ((8 : Int32) &&& 31)), .int 2, .ref 118]) jF_212_102 rfl rfl) ?_
    refine Eq.trans (jr_s (pc2 := 106) (lv2 := [(7, .int a1), (6, .int 2), (0, .ref 117), (1, .int a1), (2, .int a2), (3, .int a3), (4, .int a4), (5, .int a5)]) (st2 := [.int 255, .int (a1 >>> ((8 : Int32) &&& 31)), .int 2, .ref 118]) jF_212_103 rfl rfl) ?_
    refine Eq.trans (jr_s (pc2 := 107) (lv2 := [(7, .int a1), (6, .int 2), (0, .ref 117), (1, .int a1), (2, .int a2), (3, .int a3), (4, .int a4), (5, .int a5)]) (st2 := [.int ((a1 >>> ((8 : Int32) &&& 31)) &&& 255), .int 2, .ref 118]) jF_212_106 rfl rfl) ?_
    refine Eq.trans (jr_sti (q := 2) jF_212_107 (j_aok_arl (FD.r2 (fq_44 a1 a2 a3 a4 a5)) (by decide)) (by decide +kernel)) ?_
    refine Eq.trans (jr_s (pc2 := 109) (lv2 := [(7, .int a1), (6, .int 2), (0, .ref 117), (1, .int a1), (2, .int a2), (3, .int a3), (4, .int a4), (5, .int a5)]) (st2 := [.ref 117]) jF_212_108 rfl rfl) ?_
    refine Eq.trans (jr_s (pc2 := 110) (lv2 := [(7, .int a1), (6, .int 2), (0, .ref 117), (1, .int a1), (2, .int a2), (3, .int a3), (4, .int a4), (5, .int a5)]) (st2 := [.ref 117, .ref 117]) jF_212_109 rfl rfl) ?_
    refine Eq.trans (jr_gf (v := .int 2) jF_212_110 (FD.g5 (fq_45 a1 a2 a3 a4 a5))) ?_
    refine Eq.trans (jr_s (pc2 := 114) (lv2 := [(7, .int a1), (6, .int 2), (0, .ref 117), (1, .int a1), (2, .int a2), (3, .int a3), (4, .int a4), (5, .int a5)]) (st2 := [.int 1, .int 2, .ref 117]) jF_212_113 rfl rfl) ?_
    refine Eq.trans (jr_s (pc2 := 115) (lv2 := [(7, .int a1), (6, .int 2), (0, .ref 117), (1, .int a1), (2, .int a2), (3, .int a3), (4, .int a4), (5, .int a5)]) (st2 := [.int 3, .ref 117]) jF_212_114 rfl rfl) ?_
    refine Eq.trans (jr_pf jF_212_115 (FD.o2 (fq_45 a1 a2 a3 a4 a5)) rfl) ?_
    refine Eq.trans (jr_s (pc2 := 121) (lv2 := [(6, .int 3), (7, .int a1), (0, .ref 117), (1, .int a1), (2, .int a2), (3, .int a3), (4, .int a4), (5, .int a5)]) (st2 := []) jF_212_118 rfl rfl) ?_
    refine Eq.trans (jr_s (pc2 := 28) (lv2 := [(6, .int 3), (7, .int a1), (0, .ref 117), (1, .int a1), (2, .int a2), (3, .int a3), (4, .int a4), (5, .int a5)]) (st2 := []) jF_212_121 rfl rfl) ?_
    refine Eq.trans (jr_s (pc2 := 30) (lv2 := [(6, .int 3), (7, .int a1), (0, .ref 117), (1, .int a1), (2, .int a2), (3, .int a3), (4, .int a4), (5, .int a5)]) (st2 := [.int 3]) jF_212_28 rfl rfl) ?_
    refine Eq.trans (jr_s (pc2 := 32) (lv2 := [(6, .int 3), (7, .int a1), (0, .ref 117), (1, .int a1), (2, .int a2), (3, .int a3), (4, .int a4), (5, .int a5)]) (st2 := [.int 20, .int 3]) jF_212_30 rfl rfl) ?_
    refine Eq.trans (jr_ic0 jF_212_32 (by decide +kernel)) ?_
    refine Eq.trans (jr_s (pc2 := 37) (lv2 := [(6, .int 3), (7, .int a1), (0, .ref 117), (1, .int a1), (2, .int a2), (3, .int a3), (4, .int a4), (5, .int a5)]) (st2 := [.int 3]) jF_212_35 rfl rfl) ?_
    refine Eq.trans (jr_s (pc2 := 38) (lv2 := [(6, .int 3), (7, .int a1), (0, .ref 117), (1, .int a1), (2, .int a2), (3, .int a3), (4, .int a4), (5, .int a5)]) (st2 := [.int 4, .int 3]) jF_212_37 rfl rfl) ?_
    refine Eq.trans (jr_ic0 jF_212_38 (by decide +kernel)) ?_
    refine Eq.trans (jr_s (pc2 := 42) (lv2 := [(6, .int 3), (7, .int a1), (0, .ref 117), (1, .int a1), (2, .int a2), (3, .int a3), (4, .int a4), (5, .int a5)]) (st2 := [.int a1]) jF_212_41 rfl rfl) ?_
    refine Eq.trans (jr_s (pc2 := 81) (lv2 := [(6, .int 3), (7, .int a1), (0, .ref 117), (1, .int a1), (2, .int a2), (3, .int a3), (4, .int a4), (5, .int a5)]) (st2 := [.int a1]) jF_212_42 rfl rfl) ?_
    refine Eq.trans (jr_s (pc2 := 83) (lv2 := [(7, .int a1), (6, .int 3), (0, .ref 117), (1, .int a1), (2, .int a2), (3, .int a3), (4, .int a4), (5, .int a5)]) (st2 := []) jF_212_81 rfl rfl) ?_
    refine Eq.trans (jr_s (pc2 := 84) (lv2 := [(7, .int a1), (6, .int 3), (0, .ref 117), (1, .int a1), (2, .int a2), (3, .int a3), (4, .int a4), (5, .int a5)]) (st2 := [.ref 117]) jF_212_83 rfl rfl) ?_
    refine Eq.trans (jr_gf (v := .ref 118) jF_212_84 (FD.g4 (fq_46 a1 a2 a3 a4 a5))) ?_
    refine Eq.trans (jr_s (pc2 := 88) (lv2 := [(7, .int a1), (6, .int 3), (0, .ref 117), (1, .int a1), (2, .int a2), (3, .int a3), (4, .int a4), (5, .int a5)]) (st2 := [.ref 117, .ref 118]) jF_212_87 rfl rfl) ?_
    refine Eq.trans (jr_gf (v := .int 3) jF_212_88 (FD.g5 (fq_46 a1 a2 a3 a4 a5))) ?_
    refine Eq.trans (jr_s (pc2 := 93) (lv2 := [(7, .int a1), (6, .int 3), (0, .ref 117), (1, .int a1), (2, .int a2), (3, .int a3), (4, .int a4), (5, .int a5)]) (st2 := [.int a1, .int 3, .ref 118]) jF_212_91 rfl rfl) ?_
    refine Eq.trans (jr_s (pc2 := 95) (lv2 := [(7, .int a1), (6, .int 3), (0, .ref 117), (1, .int a1), (2, .int a2), (3, .int a3), (4, .int a4), (5, .int a5)]) (st2 := [.int 8, .int a1, .int 3, .ref 118]) jF_212_93 rfl rfl) ?_
    refine Eq.trans (jr_s (pc2 := 96) (lv2 := [(7, .int a1), (6, .int 3), (0, .ref 117), (1, .int a1), (2, .int a2), (3, .int a3), (4, .int a4), (5, .int a5)]) (st2 := [.int 3, .int 8, .int a1, .int 3, .ref 118]) jF_212_95 rfl rfl) ?_
    refine Eq.trans (jr_s (pc2 := 98) (lv2 := [(7, .int a1), (6, .int 3), (0, .ref 117), (1, .int a1), (2, .int a2), (3, .int a3), (4, .int a4), (5, .int a5)]) (st2 := [.int 3, .int 3, .int 8, .int a1, .int 3, .ref 118]) jF_212_96 rfl rfl) ?_
    refine Eq.trans (jr_s (pc2 := 99) (lv2 := [(7, .int a1), (6, .int 3), (0, .ref 117), (1, .int a1), (2, .int a2), (3, .int a3), (4, .int a4), (5, .int a5)]) (st2 := [.int 4, .int 3, .int 3, .int 8, .int a1, .int 3, .ref 118]) jF_212_98 rfl rfl) ?_
    refine Eq.trans (jr_s (pc2 := 100) (lv2 := [(7, .int a1), (6, .int 3), (0, .ref 117), (1, .int a1), (2, .int a2), (3, .int a3), (4, .int a4), (5, .int a5)]) (st2 := [.int 3, .int 3, .int 8, .int a1, .int 3, .ref 118]) jF_212_99 rfl rfl) ?_
    refine Eq.trans (jr_s (pc2 := 101) (lv2 := [(7, .int a1), (6, .int 3), (0, .ref 117), (1, .int a1), (2, .int a2), (3, .int a3), (4, .int a4), (5, .int a5)]) (st2 := [.int 0, .int 8, .int a1, .int 3, .ref 118]) jF_212_100 rfl rfl) ?_
    refine Eq.trans (jr_s (pc2 := 102) (lv2 := [(7, .int a1), (6, .int 3), (0, .ref 117), (1, .int a1), (2, .int a2), (3, .int a3), (4, .int a4), (5, .int a5)]) (st2 := [.int 0, .int a1, .int 3, .ref 118]) jF_212_101 rfl rfl) ?_
    refine Eq.trans (jr_s (pc2 := 103) (lv2 := [(7, .int a1), (6, .int 3), (0, .ref 117), (1, .int a1), (2, .int a2), (3, .int a3), (4, .int a4), (5, .int a5)]) (st2 := [.int (a1 >>> ((0 : Int32) &&& 31)), .int 3, .ref 118]) jF_212_102 rfl rfl) ?_
    refine Eq.trans (jr_s (pc2 := 106) (lv2 := [(7, .int a1), (6, .int 3), (0, .ref 117), (1, .int a1), (2, .int a2), (3, .int a3), (4, .int a4), (5, .int a5)]) (st2 := [.int 255, .int (a1 >>> ((0 : Int32) &&& 31)), .int 3, .ref 118]) jF_212_103 rfl rfl) ?_
    refine Eq.trans (jr_s (pc2 := 107) (lv2 := [(7, .int a1), (6, .int 3), (0, .ref 117), (1, .int a1), (2, .int a2), (3, .int a3), (4, .int a4), (5, .int a5)]) (st2 := [.int ((a1 >>> ((0 : Int32) &&& 31)) &&& 255), .int 3, .ref 118]) jF_212_106 rfl rfl) ?_
    refine Eq.trans (jr_sti (q := 3) jF_212_107 (j_aok_arl (FD.r2 (fq_46 a1 a2 a3 a4 a5)) (by decide)) (by decide +kernel)) ?_
    refine Eq.trans (jr_s (pc2 := 109) (lv2 := [(7, .int a1), (6, .int 3), (0, .ref 117), (1, .int a1), (2, .int a2), (3, .int a3), (4, .int a4), (5, .int a5)]) (st2 := [.ref 117]) jF_212_108 rfl rfl) ?_
    refine Eq.trans (jr_s (pc2 := 110) (lv2 := [(7, .int a1), (6, .int 3), (0, .ref 117), (1, .int a1), (2, .int a2), (3, .int a3), (4, .int a4), (5, .int a5)]) (st2 := [.ref 117, .ref 117]) jF_212_109 rfl rfl) ?_
    refine Eq.trans (jr_gf (v := .int 3) jF_212_110 (FD.g5 (fq_47 a1 a2 a3 a4 a5))) ?_
    refine Eq.trans (jr_s (pc2 := 114) (lv2 := [(7, .int a1), (6, .int 3), (0, .ref 117), (1, .int a1), (2, .int a2), (3, .int a3), (4, .int a4), (5, .int a5)]) (st2 := [.int 1, .int 3, .ref 117]) jF_212_113 rfl rfl) ?_
    refine Eq.trans (jr_s (pc2 := 115) (lv2 := [(7, .int a1), (6, .int 3), (0, .ref 117), (1, .int a1), (2, .int a2), (3, .int a3), (4, .int a4), (5, .int a5)]) (st2 := [.int 4, .ref 117]) jF_212_114 rfl rfl) ?_
    refine Eq.trans (jr_pf jF_212_115 (FD.o2 (fq_47 a1 a2 a3 a4 a5)) rfl) ?_
    refine Eq.trans (jr_s (pc2 := 121) (lv2 := [(6, .int 4), (7, .int a1), (0, .ref 117), (1, .int a1), (2, .int a2), (3, .int a3), (4, .int a4), (5, .int a5)]) (st2 := []) jF_212_118 rfl rfl) ?_
    refine Eq.trans (jr_s (pc2 := 28) (lv2 := [(6, .int 4), (7, .int a1), (0, .ref 117), (1, .int a1), (2, .int a2), (3, .int a3), (4, .int a4), (5, .int a5)]) (st2 := []) jF_212_121 rfl rfl) ?_
    refine Eq.trans (jr_s (pc2 := 30) (lv2 := [(6, .int 4), (7, .int a1), (0, .ref 117), (1, .int a1), (2, .int a2), (3, .int a3), (4, .int a4), (5, .int a5)]) (st2 := [.int 4]) jF_212_28 rfl rfl) ?_
    refine Eq.trans (jr_s (pc2 := 32) (lv2 := [(6, .int 4), (7, .int a1), (0, .ref 117), (1, .int a1), (2, .int a2), (3, .int a3), (4, .int a4), (5, .int a5)]) (st2 := [.int 20, .int 4]) jF_212_30 rfl rfl) ?_
    refine Eq.trans (jr_ic0 jF_212_32 (by decide +kernel)) ?_
    refine Eq.trans (jr_s (pc2 := 37) (lv2 := [(6, .int 4), (7, .int a1), (0, .ref 117), (1, .int a1), (2, .int a2), (3, .int a3), (4, .int a4), (5, .int a5)]) (st2 := [.int 4]) jF_212_35 rfl rfl) ?_
    refine Eq.trans (jr_s (pc2 := 38) (lv2 := [(6, .int 4), (7, .int a1), (0, .ref 117), (1, .int a1), (2, .int a2), (3, .int a3), (4, .int a4), (5, .int a5)]) (st2 := [.int 4, .int 4]) jF_212_37 rfl rfl) ?_
    refine Eq.trans (jr_ic1 jF_212_38 (by decide +kernel)) ?_
    refine Eq.trans (jr_s (pc2 := 47) (lv2 := [(6, .int 4), (7, .int a1), (0, .ref 117), (1, .int a1), (2, .int a2), (3, .int a3), (4, .int a4), (5, .int a5)]) (st2 := [.int 4]) jF_212_45 rfl rfl) ?_
    refine Eq.trans (jr_s (pc2 := 49) (lv2 := [(6, .int 4), (7, .int a1), (0, .ref 117), (1, .int a1), (2, .int a2), (3, .int a3), (4, .int a4), (5, .int a5)]) (st2 := [.int 8, .int 4]) jF_212_47 rfl rfl) ?_
    refine Eq.trans (jr_ic0 jF_212_49 (by decide +kernel)) ?_
    refine Eq.trans (jr_s (pc2 := 53) (lv2 := [(6, .int 4), (7, .int a1), (0, .ref 117), (1, .int a1), (2, .int a2), (3, .int a3), (4, .int a4), (5, .int a5)]) (st2 := [.int a2]) jF_212_52 rfl rfl) ?_
    refine Eq.trans (jr_s (pc2 := 81) (lv2 := [(6, .int 4), (7, .int a1), (0, .ref 117), (1, .int a1), (2, .int a2), (3, .int a3), (4, .int a4), (5, .int a5)]) (st2 := [.int a2]) jF_212_53 rfl rfl) ?_
    refine Eq.trans (jr_s (pc2 := 83) (lv2 := [(7, .int a2), (6, .int 4), (0, .ref 117), (1, .int a1), (2, .int a2), (3, .int a3), (4, .int a4), (5, .int a5)]) (st2 := []) jF_212_81 rfl rfl) ?_
    refine Eq.trans (jr_s (pc2 := 84) (lv2 := [(7, .int a2), (6, .int 4), (0, .ref 117), (1, .int a1), (2, .int a2), (3, .int a3), (4, .int a4), (5, .int a5)]) (st2 := [.ref 117]) jF_212_83 rfl rfl) ?_
    refine Eq.trans (jr_gf (v := .ref 118) jF_212_84 (FD.g4 (fq_48 a1 a2 a3 a4 a5))) ?_
    refine Eq.trans (jr_s (pc2 := 88) (lv2 := [(7, .int a2), (6, .int 4), (0, .ref 117), (1, .int a1), (2, .int a2), (3, .int a3), (4, .int a4), (5, .int a5)]) (st2 := [.ref 117, .ref 118]) jF_212_87 rfl rfl) ?_
    refine Eq.trans (jr_gf (v := .int 4) jF_212_88 (FD.g5 (fq_48 a1 a2 a3 a4 a5))) ?_
    refine Eq.trans (jr_s (pc2 := 93) (lv2 := [(7, .int a2), (6, .int 4), (0, .ref 117), (1, .int a1), (2, .int a2), (3, .int a3), (4, .int a4), (5, .int a5)]) (st2 := [.int a2, .int 4, .ref 118]) jF_212_91 rfl rfl) ?_
    refine Eq.trans (jr_s (pc2 := 95) (lv2 := [(7, .int a2), (6, .int 4), (0, .ref 117), (1, .int a1), (2, .int a2), (3, .int a3), (4, .int a4), (5, .int a5)]) (st2 := [.int 8, .int a2, .int 4, .ref 118]) jF_212_93 rfl rfl) ?_
    refine Eq.trans (jr_s (pc2 := 96) (lv2 := [(7, .int a2), (6, .int 4), (0, .ref 117), (1, .int a1), (2, .int a2), (3, .int a3), (4, .int a4), (5, .int a5)]) (st2 := [.int 3, .int 8, .int a2, .int 4, .ref 118]) jF_212_95 rfl rfl) ?_
    refine Eq.trans (jr_s (pc2 := 98) (lv2 := [(7, .int a2), (6, .int 4), (0, .ref 117), (1, .int a1), (2, .int a2), (3, .int a3), (4, .int a4), (5, .int a5)]) (st2 := [.int 4, .int 3, .int 8, .int a2, .int 4, .ref 118]) jF_212_96 rfl rfl) ?_
    refine Eq.trans (jr_s (pc2 := 99) (lv2 := [(7, .int a2), (6, .int 4), (0, .ref 117), (1, .int a1), (2, .int a2), (3, .int a3), (4, .int a4), (5, .int a5)]) (st2 := [.int 4, .int 4, .int 3, .int 8, .int a2, .int 4, .ref 118]) jF_212_98 rfl rfl) ?_
    refine Eq.trans (jr_s (pc2 := 100) (lv2 := [(7, .int a2), (6, .int 4), (0, .ref 117), (1, .int a1), (2, .int a2), (3, .int a3), (4, .int a4), (5, .int a5)]) (st2 := [.int 0, .int 3, .int 8, .int a2, .int 4, .ref 118]) jF_212_99 rfl rfl) ?_
    refine Eq.trans (jr_s (pc2 := 101) (lv2 := [(7, .int a2), (6, .int 4), (0, .ref 117), (1, .int a1), (2, .int a2), (3, .int a3), (4, .int a4), (5, .int a5)]) (st2 := [.int 3, .int 8, .int a2, .int 4, .ref 118]) jF_212_100 rfl rfl) ?_
    refine Eq.trans (jr_s (pc2 := 102) (lv2 := [(7, .int a2), (6, .int 4), (0, .ref 117), (1, .int a1), (2, .int a2), (3, .int a3), (4, .int a4), (5, .int a5)]) (st2 := [.int 24, .int a2, .int 4, .ref 118]) jF_212_101 rfl rfl) ?_
    refine Eq.trans (jr_s (pc2 := 103) (lv2 := [(7, .int a2), (6, .int 4), (0, .ref 117), (1, .int a1), (2, .int a2), (3, .int a3), (4, .int a4), (5, .int a5)]) (st2 := [.int (a2 >>> ((24 : Int32) &&& 31)), .int 4, .ref 118]) jF_212_102 rfl rfl) ?_
    refine Eq.trans (jr_s (pc2 := 106) (lv2 := [(7, .int a2), (6, .int 4), (0, .ref 117), (1, .int a1), (2, .int a2), (3, .int a3), (4, .int a4), (5, .int a5)]) (st2 := [.int 255, .int (a2 >>> ((24 : Int32) &&& 31)), .int 4, .ref 118]) jF_212_103 rfl rfl) ?_
    refine Eq.trans (jr_s (pc2 := 107) (lv2 := [(7, .int a2), (6, .int 4), (0, .ref 117), (1, .int a1), (2, .int a2), (3, .int a3), (4, .int a4), (5, .int a5)]) (st2 := [.int ((a2 >>> ((24 : Int32) &&& 31)) &&& 255), .int 4, .ref 118]) jF_212_106 rfl rfl) ?_
    refine Eq.trans (jr_sti (q := 4) jF_212_107 (j_aok_arl (FD.r2 (fq_48 a1 a2 a3 a4 a5)) (by decide)) (by decide +kernel)) ?_
    refine Eq.trans (jr_s (pc2 := 109) (lv2 := [(7, .int a2), (6, .int 4), (0, .ref 117), (1, .int a1), (2, .int a2), (3, .int a3), (4, .int a4), (5, .int a5)]) (st2 := [.ref 117]) jF_212_108 rfl rfl) ?_
    refine Eq.trans (jr_s (pc2 := 110) (lv2 := [(7, .int a2), (6, .int 4), (0, .ref 117), (1, .int a1), (2, .int a2), (3, .int a3), (4, .int a4), (5, .int a5)]) (st2 := [.ref 117, .ref 117]) jF_212_109 rfl rfl) ?_
    refine Eq.trans (jr_gf (v := .int 4) jF_212_110 (FD.g5 (fq_49 a1 a2 a3 a4 a5))) ?_
    refine Eq.trans (jr_s (pc2 := 114) (lv2 := [(7, .int a2), (6, .int 4), (0, .ref 117), (1, .int a1), (2, .int a2), (3, .int a3), (4, .int a4), (5, .int a5)]) (st2 := [.int 1, .int 4, .ref 117]) jF_212_113 rfl rfl) ?_
    refine Eq.trans (jr_s (pc2 := 115) (lv2 := [(7, .int a2), (6, .int 4), (0, .ref 117), (1, .int a1), (2, .int a2), (3, .int a3), (4, .int a4), (5, .int a5)]) (st2 := [.int 5, .ref 117]) jF_212_114 rfl rfl) ?_
    refine Eq.trans (jr_pf jF_212_115 (FD.o2 (fq_49 a1 a2 a3 a4 a5)) rfl) ?_
    refine Eq.trans (jr_s (pc2 := 121) (lv2 := [(6, .int 5), (7, .int a2), (0, .ref 117), (1, .int a1), (2, .int a2), (3, .int a3), (4, .int a4), (5, .int a5)]) (st2 := []) jF_212_118 rfl rfl) ?_
    refine Eq.trans (jr_s (pc2 := 28) (lv2 := [(6, .int 5), (7, .int a2), (0, .ref 117), (1, .int a1), (2, .int a2), (3, .int a3), (4, .int a4), (5, .int a5)]) (st2 := []) jF_212_121 rfl rfl) ?_
    refine Eq.trans (jr_s (pc2 := 30) (lv2 := [(6, .int 5), (7, .int a2), (0, .ref 117), (1, .int a1), (2, .int a2), (3, .int a3), (4, .int a4), (5, .int a5)]) (st2 := [.int 5]) jF_212_28 rfl rfl) ?_
    refine Eq.trans (jr_s (pc2 := 32) (lv2 := [(6, .int 5), (7, .int a2), (0, .ref 117), (1, .int a1), (2, .int a2), (3, .int a3), (4, .int a4), (5, .int a5)]) (st2 := [.int 20, .int 5]) jF_212_30 rfl rfl) ?_
    refine Eq.trans (jr_ic0 jF_212_32 (by decide +kernel)) ?_
    refine Eq.trans (jr_s (pc2 := 37) (lv2 := [(6, .int 5), (7, .int a2), (0, .ref 117), (1, .int a1), (2, .int a2), (3, .int a3), (4, .int a4), (5, .int a5)]) (st2 := [.int 5]) jF_212_35 rfl rfl) ?_
    refine Eq.trans (jr_s (pc2 := 38) (lv2 := [(6, .int 5), (7, .int a2), (0, .ref 117), (1, .int a1), (2, .int a2), (3, .int a3), (4, .int a4), (5, .int a5)]) (st2 := [.int 4, .int 5]) jF_212_37 rfl rfl) ?_
    refine Eq.trans (jr_ic1 jF_212_38 (by decide +kernel)) ?_
    refine Eq.trans (jr_s (pc2 := 47) (lv2 := [(6, .int 5), (7, .int a2), (0, .ref 117), (1, .int a1), (2, .int a2), (3, .int a3), (4, .int a4), (5, .int a5)]) (st2 := [.int 5]) jF_212_45 rfl rfl) ?_
    refine Eq.trans (jr_s (pc2 := 49) (lv2 := [(6, .int 5), (7, .int a2), (0, .ref 117), (1, .int a1), (2, .int a2), (3, .int a3), (4, .int a4), (5, .int a5)]) (st2 := [.int 8, .int 5]) jF_212_47 rfl rfl) ?_
    refine Eq.trans (jr_ic0 jF_212_49 (by decide +kernel)) ?_
    refine Eq.trans (jr_s (pc2 := 53) (lv2 := [(6, .int 5), (7, .int a2), (0, .ref 117), (1, .int a1), (2, .int a2), (3, .int a3), (4, .int a4), (5, .int a5)]) (st2 := [.int a2]) jF_212_52 rfl rfl) ?_
    refine Eq.trans (jr_s (pc2 := 81) (lv2 := [(6, .int 5), (7, .int a2), (0, .ref 117), (1, .int a1), (2, .int a2), (3, .int a3), (4, .int a4), (5, .int a5)]) (st2 := [.int a2]) jF_212_53 rfl rfl) ?_
    refine Eq.trans (jr_s (pc2 := 83) (lv2 := [(7, .int a2), (6, .int 5), (0, .ref 117), (1, .int a1), (2, .int a2), (3, .int a3), (4, .int a4), (5, .int a5)]) (st2 := []) jF_212_81 rfl rfl) ?_
    refine Eq.trans (jr_s (pc2 := 84) (lv2 := [(7, .int a2), (6, .int 5), (0, .ref 117), (1, .int a1), (2, .int a2), (3, .int a3), (4, .int a4), (5, .int a5)]) (st2 := [.ref 117]) jF_212_83 rfl rfl) ?_
    refine Eq.trans (jr_gf (v := .ref 118) jF_212_84 (FD.g4 (fq_50 a1 a2 a3 a4 a5))) ?_
    refine Eq.trans (jr_s (pc2 := 88) (lv2 := [(7, .int a2), (6, .int 5), (0, .ref 117), (1, .int a1), (2, .int a2), (3, .int a3), (4, .int a4), (5, .int a5)]) (st2 := [.ref 117, .ref 118]) jF_212_87 rfl rfl) ?_
    refine Eq.trans (jr_gf (v := .int 5) jF_212_88 (FD.g5 (fq_50 a1 a2 a3 a4 a5))) ?_
    refine Eq.trans (jr_s (pc2 := 93) (lv2 := [(7, .int a2), (6, .int 5), (0, .ref 117), (1, .int a1), (2, .int a2), (3, .int a3), (4, .int a4), (5, .int a5)]) (st2 := [.int a2, .int 5, .ref 118]) jF_212_91 rfl rfl) ?_
    refine Eq.trans (jr_s (pc2 := 95) (lv2 := [(7, .int a2), (6, .int 5), (0, .ref 117), (1, .int a1), (2, .int a2), (3, .int a3), (4, .int a4), (5, .int a5)]) (st2 := [.int 8, .int a2, .int 5, .ref 118]) jF_212_93 rfl rfl) ?_
    refine Eq.trans (jr_s (pc2 := 96) (lv2 := [(7, .int a2), (6, .int 5), (0, .ref 117), (1, .int a1), (2, .int a2), (3, .int a3), (4, .int a4), (5, .int a5)]) (st2 := [.int 3, .int 8, .int a2, .int 5, .ref 118]) jF_212_95 rfl rfl) ?_
    refine Eq.trans (jr_s (pc2 := 98) (lv2 := [(7, .int a2), (6, .int 5), (0, .ref 117), (1, .int a1), (2, .int a2), (3, .int a3), (4, .int a4), (5, .int a5)]) (st2 := [.int 5, .int 3, .int 8, .int a2, .int 5, .ref 118]) jF_212_96 rfl rfl) ?_
    refine Eq.trans (jr_s (pc2 := 99) (lv2 := [(7, .int a2), (6, .int 5), (0, .ref 117), (1, .int a1), (2, .int a2), (3, .int a3), (4, .int a4), (5, .int a5)]) (st2 := [.int 4, .int 5, .int 3, .int 8, .int a2, .int 5, .ref 118]) jF_212_98 rfl rfl) ?_
    refine Eq.trans (jr_s (pc2 := 100) (lv2 := [(7, .int a2), (6, .int 5), (0, .ref 117), (1, .int a1), (2, .int a2), (3, .int a3), (4, .int a4), (5, .int a5)]) (st2 := [.int 1, .int 3, .int 8, .int a2, .int 5, .ref 118]) jF_212_99 rfl rfl) ?_
    refine Eq.trans (jr_s (pc2 := 101) (lv2 := [(7, .int a2), (6, .int 5), (0, .ref 117), (1, .int a1), (2, .int a2), (3, .int a3), (4, .int a4), (5, .int a5)]) (st2 := [.int 2, .int 8, .int a2, .int 5, .ref 118]) jF_212_100 rfl rfl) ?_
    refine Eq.trans (jr_s (pc2 := 102) (lv2 := [(7, .int a2), (6, .int 5), (0, .ref 117), (1, .int a1), (2, .int a2), (3, .int a3), (4, .int a4), (5, .int a5)]) (st2 := [.int 16, .int a2, .int 5, .ref 118]) jF_212_101 rfl rfl) ?_
    refine Eq.trans (jr_s (pc2 := 103) (lv2 := [(7, .int a2), (6, .int 5), (0, .ref 117), (1, .int a1), (2, .int a2), (3, .int a3), (4, .int a4), (5, .int a5)]) (st2 := [.int (a2 >>> ((16 : Int32) &&& 31)), .int 5, .ref 118]) jF_212_102 rfl rfl) ?_
    refine Eq.trans (jr_s (pc2 := 106) (lv2 := [(7, .int a2), (6, .int 5), (0, .ref 117), (1, .int a1), (2, .int a2), (3, .int a3), (4, .int a4), (5, .int a5)]) (st2 := [.int 255, .int (a2 >>> ((16 : Int32) &&& 31)), .int 5, .ref 118]) jF_212_103 rfl rfl) ?_
    refine Eq.trans (jr_s (pc2 := 107) (lv2 := [(7, .int a2), (6, .int 5), (0, .ref 117), (1, .int a1), (2, .int a2), (3, .int a3), (4, .int a4), (5, .int a5)]) (st2 := [.int ((a2 >>> ((16 : Int32) &&& 31)) &&& 255), .int 5, .ref 118]) jF_212_106 rfl rfl) ?_
    refine Eq.trans (jr_sti (q := 5) jF_212_107 (j_aok_arl (FD.r2 (fq_50 a1 a2 a3 a4 a5)) (by decide)) (by decide +kernel)) ?_
    refine Eq.trans (jr_s (pc2 := 109) (lv2 := [(7, .int a2), (6, .int 5), (0, .ref 117), (1, .int a1), (2, .int a2), (3, .int a3), (4, .int a4), (5, .int a5)]) (st2 := [.ref 117]) jF_212_108 rfl rfl) ?_
    refine Eq.trans (jr_s (pc2 := 110) (lv2 := [(7, .int a2), (6, .int 5), (0, .ref 117), (1, .int a1), (2, .int a2), (3, .int a3), (4, .int a4), (5, .int a5)]) (st2 := [.ref 117, .ref 117]) jF_212_109 rfl rfl) ?_
    refine Eq.trans (jr_gf (v := .int 5) jF_212_110 (FD.g5 (fq_51 a1 a2 a3 a4 a5))) ?_
    refine Eq.trans (jr_s (pc2 := 114) (lv2 := [(7, .int a2), (6, .int 5), (0, .ref 117), (1, .int a1), (2, .int a2), (3, .int a3), (4, .int a4), (5, .int a5)]) (st2 := [.int 1, .int 5, .ref 117]) jF_212_113 rfl rfl) ?_
    refine Eq.trans (jr_s (pc2 := 115) (lv2 := [(7, .int a2), (6, .int 5), (0, .ref 117), (1, .int a1), (2, .int a2), (3, .int a3), (4, .int a4), (5, .int a5)]) (st2 := [.int 6, .ref 117]) jF_212_114 rfl rfl) ?_
    refine Eq.trans (jr_pf jF_212_115 (FD.o2 (fq_51 a1 a2 a3 a4 a5)) rfl) ?_
    refine Eq.trans (jr_s (pc2 := 121) (lv2 := [(6, .int 6), (7, .int a2), (0, .ref 117), (1, .int a1), (2, .int a2), (3, .int a3), (4, .int a4), (5, .int a5)]) (st2 := []) jF_212_118 rfl rfl) ?_
    refine Eq.trans (jr_s (pc2 := 28) (lv2 := [(6, .int 6), (7, .int a2), (0, .ref 117), (1, .int a1), (2, .int a2), (3, .int a3), (4, .int a4), (5, .int a5)]) (st2 := []) jF_212_121 rfl rfl) ?_
    refine Eq.trans (jr_s (pc2 := 30) (lv2 := [(6, .int 6), (7, .int a2), (0, .ref 117), (1, .int a1), (2, .int a2), (3, .int a3), (4, .int a4), (5, .int a5)]) (st2 := [.int 6]) jF_212_28 rfl rfl) ?_
    refine Eq.trans (jr_s (pc2 := 32) (lv2 := [(6, .int 6), (7, .int a2), (0, .ref 117), (1, .int a1), (2, .int a2), (3, .int a3), (4, .int a4), (5, .int a5)]) (st2 := [.int 20, .int 6]) jF_212_30 rfl rfl) ?_
    refine Eq.trans (jr_ic0 jF_212_32 (by decide +kernel)) ?_
    refine Eq.trans (jr_s (pc2 := 37) (lv2 := [(6, .int 6), (7, .int a2), (0, .ref 117), (1, .int a1), (2, .int a2), (3, .int a3), (4, .int a4), (5, .int a5)]) (st2 := [.int 6]) jF_212_35 rfl rfl) ?_
    refine Eq.trans (jr_s (pc2 := 38) (lv2 := [(6, .int 6), (7, .int a2), (0, .ref 117), (1, .int a1), (2, .int a2), (3, .int a3), (4, .int a4), (5, .int a5)]) (st2 := [.int 4, .int 6]) jF_212_37 rfl rfl) ?_
    refine Eq.trans (jr_ic1 jF_212_38 (by decide +kernel)) ?_
    refine Eq.trans (jr_s (pc2 := 47) (lv2 := [(6, .int 6), (7, .int a2), (0, .ref 117), (1, .int a1), (2, .int a2), (3, .int a3), (4, .int a4), (5, .int a5)]) (st2 := [.int 6]) jF_212_45 rfl rfl) ?_
    refine Eq.trans (jr_s (pc2 := 49) (lv2 := [(6, .int 6), (7, .int a2), (0, .ref 117), (1, .int a1), (2, .int a2), (3, .int a3), (4, .int a4), (5, .int a5)]) (st2 := [.int 8, .int 6]) jF_212_47 rfl rfl) ?_
    refine Eq.trans (jr_ic0 jF_212_49 (by decide +kernel)) ?_
    refine Eq.trans (jr_s (pc2 := 53) (lv2 := [(6, .int 6), (7, .int a2), (0, .ref 117), (1, .int a1), (2, .int a2), (3, .int a3), (4, .int a4), (5, .int a5)]) (st2 := [.int a2]) jF_212_52 rfl rfl) ?_
    refine Eq.trans (jr_s (pc2 := 81) (lv2 := [(6, .int 6), (7, .int a2), (0, .ref 117), (1, .int a1), (2, .int a2), (3, .int a3), (4, .int a4), (5, .int a5)]) (st2 := [.int a2]) jF_212_53 rfl rfl) ?_
    refine Eq.trans (jr_s (pc2 := 83) (lv2 := [(7, .int a2), (6, .int 6), (0, .ref 117), (1, .int a1), (2, .int a2), (3, .int a3), (4, .int a4), (5, .int a5)]) (st2 := []) jF_212_81 rfl rfl) ?_
    refine Eq.trans (jr_s (pc2 := 84) (lv2 := [(7, .int a2), (6, .int 6), (0, .ref 117), (1, .int a1), (2, .int a2), (3, .int a3), (4, .int a4), (5, .int a5)]) (st2 := [.ref 117]) jF_212_83 rfl rfl) ?_
    refine Eq.trans (jr_gf (v := .ref 118) jF_212_84 (FD.g4 (fq_52 a1 a2 a3 a4 a5))) ?_
    refine Eq.trans (jr_s (pc2 := 88) (lv2 := [(7, .int a2), (6, .int 6), (0, .ref 117), (1, .int a1), (2, .int a2), (3, .int a3), (4, .int a4), (5, .int a5)]) (st2 := [.ref 117, .ref 118]) jF_212_87 rfl rfl) ?_
    refine Eq.trans (jr_gf (v := .int 6) jF_212_88 (FD.g5 (fq_52 a1 a2 a3 a4 a5))) ?_
    refine Eq.trans (jr_s (pc2 := 93) (lv2 := [(7, .int a2), (6, .int 6), (0, .ref 117), (1, .int a1), (2, .int a2), (3, .int a3), (4, .int a4), (5, .int a5)]) (st2 := [.int a2, .int 6, .ref 118]) jF_212_91 rfl rfl) ?_
    refine Eq.trans (jr_s (pc2 := 95) (lv2 := [(7, .int a2), (6, .int 6), (0, .ref 117), (1, .int a1), (2, .int a2), (3, .int a3), (4, .int a4), (5, .int a5)]) (st2 := [.int 8, .int a2, .int 6, .ref 118]) jF_212_93 rfl rfl) ?_
    refine Eq.trans (jr_s (pc2 := 96) (lv2 := [(7, .int a2), (6, .int 6), (0, .ref 117), (1, .int a1), (2, .int a2), (3, .int a3), (4, .int a4), (5, .int a5)]) (st2 := [.int 3, .int 8, .int a2, .int 6, .ref 118]) jF_212_95 rfl rfl) ?_
    refine Eq.trans (jr_s (pc2 := 98) (lv2 := [(7, .int a2), (6, .int 6), (0, .ref 117), (1, .int a1), (2, .int a2), (3, .int a3), (4, .int a4), (5, .int a5)]) (st2 := [.int 6, .int 3, .int 8, .int a2, .int 6, .ref 118]) jF_212_96 rfl rfl) ?_
    refine Eq.trans (jr_s (pc2 := 99) (lv2 := [(7, .int a2), (6, .int 6), (0, .ref 117), (1, .int a1), (2, .int a2), (3, .int a3), (4, .int a4), (5, .int a5)]) (st2 := [.int 4, .int 6, .int 3, .int 8, .int a2, .int 6, .ref 118]) jF_212_98 rfl rfl) ?_
    refine Eq.trans (jr_s (pc2 := 100) (lv2 := [(7, .int a2), (6, .int 6), (0, .ref 117), (1, .int a1), (2, .int a2), (3, .int a3), (4, .int a4), (5, .int a5)]) (st2 := [.int 2, .int 3, .int 8, .int a2, .int 6, .ref 118]) jF_212_99 rfl rfl) ?_
    refine Eq.trans (jr_s (pc2 := 101) (lv2 := [(7, .int a2), (6, .int 6), (0, .ref 117), (1, .int a1), (2, .int a2), (3, .int a3), (4, .int a4), (5, .int a5)]) (st2 := [.int 1, .int 8, .int a2, .int 6, .ref 118]) jF_212_100 rfl rfl) ?_
    refine Eq.trans (jr_s (pc2 := 102) (lv2 := [(7, .int a2), (6, .int 6), (0, .ref 117), (1, .int a1), (2, .int a2), (3, .int a3), (4, .int a4), (5, .int a5)]) (st2 := [.int 8, .int a2, .int 6, .ref 118]) jF_212_101 rfl rfl) ?_
    refine Eq.trans (jr_s (pc2 := 103) (lv2 := [(7, .int a2), (6, .int 6), (0, .ref 117), (1, .int a1), (2, .int a2), (3, .int a3), (4, .int a4), (5, .int a5)]) (st2 := [.int (a2 >>> ((8 : Int32) &&& 31)), .int 6, .ref 118]) jF_212_102 rfl rfl) ?_
    refine Eq.trans (jr_s (pc2 := 106) (lv2 := [(7, .int a2), (6, .int 6), (0, .ref 117), (1, .int a1), (2, .int a2), (3, .int a3), (4, .int a4), (5, .int a5)]) (st2 := [.int 255, .int (a2 >>> ((8 : Int32) &&& 31)), .int 6, .ref 118]) jF_212_103 rfl rfl) ?_
    refine Eq.trans (jr_s (pc2 := 107) (lv2 := [(7, .int a2), (6, .int 6), (0, .ref 117), (1, .int a1), (2, .int a2), (3, .int a3), (4, .int a4), (5, .int a5)]) (st2 := [.int ((a2 >>> ((8 : Int32) &&& 31)) &&& 255), .int 6, .ref 118]) jF_212_106 rfl rfl) ?_
    refine Eq.trans (jr_sti (q := 6) jF_212_107 (j_aok_arl (FD.r2 (fq_52 a1 a2 a3 a4 a5)) (by decide)) (by decide +kernel)) ?_
    refine Eq.trans (jr_s (pc2 := 109) (lv2 := [(7, .int a2), (6, .int 6), (0, .ref 117), (1, .int a1), (2, .int a2), (3, .int a3), (4, .int a4), (5, .int a5)]) (st2 := [.ref 117]) jF_212_108 rfl rfl) ?_
    refine Eq.trans (jr_s (pc2 := 110) (lv2 := [(7, .int a2), (6, .int 6), (0, .ref 117), (1, .int a1), (2, .int a2), (3, .int a3), (4, .int a4), (5, .int a5)]) (st2 := [.ref 117, .ref 117]) jF_212_109 rfl rfl) ?_
    refine Eq.trans (jr_gf (v := .int 6) jF_212_110 (FD.g5 (fq_53 a1 a2 a3 a4 a5))) ?_
    refine Eq.trans (jr_s (pc2 := 114) (lv2 := [(7, .int a2), (6, .int 6), (0, .ref 117), (1, .int a1), (2, .int a2), (3, .int a3), (4, .int a4), (5, .int a5)]) (st2 := [.int 1, .int 6, .ref 117]) jF_212_113 rfl rfl) ?_
    refine Eq.trans (jr_s (pc2 := 115) (lv2 := [(7, .int a2), (6, .int 6), (0, .ref 117), (1, .int a1), (2, .int a2), (3, .int a3), (4, .int a4), (5, .int a5)]) (st2 := [.int 7, .ref 117]) jF_212_114 rfl rfl) ?_
    refine Eq.trans (jr_pf jF_212_115 (FD.o2 (fq_53 a1 a2 a3 a4 a5)) rfl) ?_
    refine Eq.trans (jr_s (pc2 := 121) (lv2 := [(6, .int 7), (7, .int a2), (0, .ref 117), (1, .int a1), (2, .int a2), (3, .int a3), (4, .int a4), (5, .int a5)]) (st2 := []) jF_212_118 rfl rfl) ?_
    refine Eq.trans (jr_s (pc2 := 28) (lv2 := [(6, .int 7), (7, .int a2), (0, .ref 117), (1, .int a1), (2, .int a2), (3, .int a3), (4, .int a4), (5, .int a5)]) (st2 := []) jF_212_121 rfl rfl) ?_
    refine Eq.trans (jr_s (pc2 := 30) (lv2 := [(6, .int 7), (7, .int a2), (0, .ref 117), (1, .int a1), (2, .int a2), (3, .int a3), (4, .int a4), (5, .int a5)]) (st2 := [.int 7]) jF_212_28 rfl rfl) ?_
    refine Eq.trans (jr_s (pc2 := 32) (lv2 := [(6, .int 7), (7, .int a2), (0, .ref 117), (1, .int a1), (2, .int a2), (3, .int a3), (4, .int a4), (5, .int a5)]) (st2 := [.int 20, .int 7]) jF_212_30 rfl rfl) ?_
    refine Eq.trans (jr_ic0 jF_212_32 (by decide +kernel)) ?_
    refine Eq.trans (jr_s (pc2 := 37) (lv2 := [(6, .int 7), (7, .int a2), (0, .ref 117), (1, .int a1), (2, .int a2), (3, .int a3), (4, .int a4), (5, .int a5)]) (st2 := [.int 7]) jF_212_35 rfl rfl) ?_
    refine Eq.trans (jr_s (pc2 := 38) (lv2 := [(6, .int 7), (7, .int a2), (0, .ref 117), (1, .int a1), (2, .int a2), (3, .int a3), (4, .int a4), (5, .int a5)]) (st2 := [.int 4, .int 7]) jF_212_37 rfl rfl) ?_
    refine Eq.trans (jr_ic1 jF_212_38 (by decide +kernel)) ?_
    refine Eq.trans (jr_s (pc2 := 47) (lv2 := [(6, .int 7), (7, .int a2), (0, .ref 117), (1, .int a1), (2, .int a2), (3, .int a3), (4, .int a4), (5, .int a5)]) (st2 := [.int 7]) jF_212_45 rfl rfl) ?_
    refine Eq.trans (jr_s (pc2 := 49) (lv2 := [(6, .int 7), (7, .int a2), (0, .ref 117), (1, .int a1), (2, .int a2), (3, .int a3), (4, .int a4), (5, .int a5)]) (st2 := [.int 8, .int 7]) jF_212_47 rfl rfl) ?_
    refine Eq.trans (jr_ic0 jF_212_49 (by decide +kernel)) ?_
    refine Eq.trans (jr_s (pc2 := 53) (lv2 := [(6, .int 7), (7, .int a2), (0, .ref 117), (1, .int a1), (2, .int a2), (3, .int a3), (4, .int a4), (5, .int a5)]) (st2 := [.int a2]) jF_212_52 rfl rfl) ?_
    refine Eq.trans (jr_s (pc2 := 81) (lv2 := [(6, .int 7), (7, .int a2), (0, .ref 117), (1, .int a1), (2, .int a2), (3, .int a3), (4, .int a4), (5, .int a5)]) (st2 := [.int a2]) jF_212_53 rfl rfl) ?_
    refine Eq.trans (jr_s (pc2 := 83) (lv2 := [(7, .int a2), (6, .int 7), (0, .ref 117), (1, .int a1), (2, .int a2), (3, .int a3), (4, .int a4), (5, .int a5)]) (st2 := []) jF_212_81 rfl rfl) ?_
    refine Eq.trans (jr_s (pc2 := 84) (lv2 := [(7, .int a2), (6, .int 7), (0, .ref 117), (1, .int a1), (2, .int a2), (3, .int a3), (4, .int a4), (5, .int a5)]) (st2 := [.ref 117]) jF_212_83 rfl rfl) ?_
    refine Eq.trans (jr_gf (v := .ref 118) jF_212_84 (FD.g4 (fq_54 a1 a2 a3 a4 a5))) ?_
    refine Eq.trans (jr_s (pc2 := 88) (lv2 := [(7, .int a2), (6, .int 7), (0, .ref 117), (1, .int a1), (2, .int a2), (3, .int a3), (4, .int a4), (5, .int a5)]) (st2 := [.ref 117, .ref 118]) jF_212_87 rfl rfl) ?_
    refine Eq.trans (jr_gf (v := .int 7) jF_212_88 (FD.g5 (fq_54 a1 a2 a3 a4 a5))) ?_
    refine Eq.trans (jr_s (pc2 := 93) (lv2 := [(7, .int a2), (6, .int 7), (0, .ref 117), (1, .int a1), (2, .int a2), (3, .int a3), (4, .int a4), (5, .int a5)]) (st2 := [.int a2, .int 7, .ref 118]) jF_212_91 rfl rfl) ?_
    refine Eq.trans (jr_s (pc2 := 95) (lv2 := [(7, .int a2), (6, .int 7), (0, .ref 117), (1, .int a1), (2, .int a2), (3, .int a3), (4, .int a4), (5, .int a5)]) (st2 := [.int 8, .int a2, .int 7, .ref 118]) jF_212_93 rfl rfl) ?_
    refine Eq.trans (jr_s (pc2 := 96) (lv2 := [(7, .int a2), (6, .int 7), (0, .ref 117), (1, .int a1), (2, .int a2), (3, .int a3), (4, .int a4), (5, .int a5)]) (st2 := [.int 3, .int 8, .int a2, .int 7, .ref 118]) jF_212_95 rfl rfl) ?_
    refine Eq.trans (jr_s (pc2 := 98) (lv2 := [(7, .int a2), (6, .int 7), (0, .ref 117), (1, .int a1), (2, .int a2), (3, .int a3), (4, .int a4), (5, .int a5)]) (st2 := [.int 7, .int 3, .int 8, .int a2, .int 7, .ref 118]) jF_212_96 rfl rfl) ?_
    refine Eq.trans (jr_s (pc2 := 99) (lv2 := [(7, .int a2), (6, .int 7), (0, .ref 117), (1, .int a1), (2, .int a2), (3, .int a3), (4, .int a4), (5, .int a5)]) (st2 := [.int 4, .int 7, .int 3, .int 8, .int a2, .int 7, .ref 118]) jF_212_98 rfl rfl) ?_
    refine Eq.trans (jr_s (pc2 := 100) (lv2 := [(7, .int a2), (6, .int 7), (0, .ref 117), (1, .int a1), (2, .int a2), (3, .int a3), (4, .int a4), (5, .int a5)]) (st2 := [.int 3, .int 3, .int 8, .int a2, .int 7, .ref 118]) jF_212_99 rfl rfl) ?_
    refine Eq.trans (jr_s (pc2 := 101) (lv2 := [(7, .int a2), (6, .int 7), (0, .ref 117), (1, .int a1), (2, .int a2), (3, .int a3), (4, .int a4), (5, .int a5)]) (st2 := [.int 0, .int 8, .int a2, .int 7, .ref 118]) jF_212_100 rfl rfl) ?_
    refine Eq.trans (jr_s (pc2 := 102) (lv2 := [(7, .int a2), (6, .int 7), (0, .ref 117), (1, .int a1), (2, .int a2), (3, .int a3), (4, .int a4), (5, .int a5)]) (st2 := [.int 0, .int a2, .int 7, .ref 118]) jF_212_101 rfl rfl) ?_
    refine Eq.trans (jr_s (pc2 := 103) (lv2 := [(7, .int a2), (6, .int 7), (0, .ref 117), (1, .int a1), (2, .int a2), (3, .int a3), (4, .int a4), (5, .int a5)]) (st2 := [.int (a2 >>> ((0 : Int32) &&& 31)), .int 7, .ref 118]) jF_212_102 rfl rfl) ?_
    refine Eq.trans (jr_s (pc2 := 106) (lv2 := [(7, .int a2), (6, .int 7), (0, .ref 117), (1, .int a1), (2, .int a2), (3, .int a3), (4, .int a4), (5, .int a5)]) (st2 := [.int 255, .int (a2 >>> ((0 : Int32) &&& 31)), .int 7, .ref 118]) jF_212_103 rfl rfl) ?_
    refine Eq.trans (jr_s (pc2 := 107) (lv2 := [(7, .int a2), (6, .int 7), (0, .ref 117), (1, .int a1), (2, .int a2), (3, .int a3), (4, .int a4), (5, .int a5)]) (st2 := [.int ((a2 >>> ((0 : Int32) &&& 31)) &&& 255), .int 7, .ref 118]) jF_212_106 rfl rfl) ?_
    refine Eq.trans (jr_sti (q := 7) jF_212_107 (j_aok_arl (FD.r2 (fq_54 a1 a2 a3 a4 a5)) (by decide)) (by decide +kernel)) ?_
    refine Eq.trans (jr_s (pc2 := 109) (lv2 := [(7, .int a2), (6, .int 7), (0, .ref 117), (1, .int a1), (2, .int a2), (3, .int a3), (4, .int a4), (5, .int a5)]) (st2 := [.ref 117]) jF_212_108 rfl rfl) ?_
    refine Eq.trans (jr_s (pc2 := 110) (lv2 := [(7, .int a2), (6, .int 7), (0, .ref 117), (1, .int a1), (2, .int a2), (3, .int a3), (4, .int a4), (5, .int a5)]) (st2 := [.ref 117, .ref 117]) jF_212_109 rfl rfl) ?_
    refine Eq.trans (jr_gf (v := .int 7) jF_212_110 (FD.g5 (fq_55 a1 a2 a3 a4 a5))) ?_
    refine Eq.trans (jr_s (pc2 := 114) (lv2 := [(7, .int a2), (6, .int 7), (0, .ref 117), (1, .int a1), (2, .int a2), (3, .int a3), (4, .int a4), (5, .int a5)]) (st2 := [.int 1, .int 7, .ref 117]) jF_212_113 rfl rfl) ?_
    refine Eq.trans (jr_s (pc2 := 115) (lv2 := [(7, .int a2), (6, .int 7), (0, .ref 117), (1, .int a1), (2, .int a2), (3, .int a3), (4, .int a4), (5, .int a5)]) (st2 := [.int 8, .ref 117]) jF_212_114 rfl rfl) ?_
    refine Eq.trans (jr_pf jF_212_115 (FD.o2 (fq_55 a1 a2 a3 a4 a5)) rfl) ?_
    refine Eq.trans (jr_s (pc2 := 121) (lv2 := [(6, .int 8), (7, .int a2), (0, .ref 117), (1, .int a1), (2, .int a2), (3, .int a3), (4, .int a4), (5, .int a5)]) (st2 := []) jF_212_118 rfl rfl) ?_
    refine Eq.trans (jr_s (pc2 := 28) (lv2 := [(6, .int 8), (7, .int a2), (0, .ref 117), (1, .int a1), (2, .int a2), (3, .int a3), (4, .int a4), (5, .int a5)]) (st2 := []) jF_212_121 rfl rfl) ?_
    refine Eq.trans (jr_s (pc2 := 30) (lv2 := [(6, .int 8), (7, .int a2), (0, .ref 117), (1, .int a1), (2, .int a2), (3, .int a3), (4, .int a4), (5, .int a5)]) (st2 := [.int 8]) jF_212_28 rfl rfl) ?_
    refine Eq.trans (jr_s (pc2 := 32) (lv2 := [(6, .int 8), (7, .int a2), (0, .ref 117), (1, .int a1), (2, .int a2), (3, .int a3), (4, .int a4), (5, .int a5)]) (st2 := [.int 20, .int 8]) jF_212_30 rfl rfl) ?_
    refine Eq.trans (jr_ic0 jF_212_32 (by decide +kernel)) ?_
    refine Eq.trans (jr_s (pc2 := 37) (lv2 := [(6, .int 8), (7, .int a2), (0, .ref 117), (1, .int a1), (2, .int a2), (3, .int a3), (4, .int a4), (5, .int a5)]) (st2 := [.int 8]) jF_212_35 rfl rfl) ?_
    refine Eq.trans (jr_s (pc2 := 38) (lv2 := [(6, .int 8), (7, .int a2), (0, .ref 117), (1, .int a1), (2, .int a2), (3, .int a3), (4, .int a4), (5, .int a5)]) (st2 := [.int 4, .int 8]) jF_212_37 rfl rfl) ?_
    refine Eq.trans (jr_ic1 jF_212_38 (by decide +kernel)) ?_
    refine Eq.trans (jr_s (pc2 := 47) (lv2 := [(6, .int 8), (7, .int a2), (0, .ref 117), (1, .int a1), (2, .int a2), (3, .int a3), (4, .int a4), (5, .int a5)]) (st2 := [.int 8]) jF_212_45 rfl rfl) ?_
    refine Eq.trans (jr_s (pc2 := 49) (lv2 := [(6, .int 8), (7, .int a2), (0, .ref 117), (1, .int a1), (2, .int a2), (3, .int a3), (4, .int a4), (5, .int a5)]) (st2 := [.int 8, .int 8]) jF_212_47 rfl rfl) ?_
    refine Eq.trans (jr_ic1 jF_212_49 (by decide +kernel)) ?_
    refine Eq.trans (jr_s (pc2 := 58) (lv2 := [(6, .int 8), (7, .int a2), (0, .ref 117), (1, .int a1), (2, .int a2), (3, .int a3), (4, .int a4), (5, .int a5)]) (st2 := [.int 8]) jF_212_56 rfl rfl) ?_
    refine Eq.trans (jr_s (pc2 := 60) (lv2 := [(6, .int 8), (7, .int a2), (0, .ref 117), (1, .int a1), (2, .int a2), (3, .int a3), (4, .int a4), (5, .int a5)]) (st2 := [.int 12, .int 8]) jF_212_58 rfl rfl) ?_
    refine Eq.trans (jr_ic0 jF_212_60 (by decide +kernel)) ?_
    refine Eq.trans (jr_s (pc2 := 64) (lv2 := [(6, .int 8), (7, .int a2), (0, .ref 117), (1, .int a1), (2, .int a2), (3, .int a3), (4, .int a4), (5, .int a5)]) (st2 := [.int a3]) jF_212_63 rfl rfl) ?_
    refine Eq.trans (jr_s (pc2 := 81) (lv2 := [(6, .int 8), (7, .int a2), (0, .ref 117), (1, .int a1), (2, .int a2), (3, .int a3), (4, .int a4), (5, .int a5)]) (st2 := [.int a3]) jF_212_64 rfl rfl) ?_
    refine Eq.trans (jr_s (pc2 := 83) (lv2 := [(7, .int a3), (6, .int 8), (0, .ref 117), (1, .int a1), (2, .int a2), (3, .int a3), (4, .int a4), (5, .int a5)]) (st2 := []) jF_212_81 rfl rfl) ?_
    refine Eq.trans (jr_s (pc2 := 84) (lv2 := [(7, .int a3), (6, .int 8), (0, .ref 117), (1, .int a1), (2, .int a2), (3, .int a3), (4, .int a4), (5, .int a5)]) (st2 := [.ref 117]) jF_212_83 rfl rfl) ?_
    refine Eq.trans (jr_gf (v := .ref 118) jF_212_84 (FD.g4 (fq_56 a1 a2 a3 a4 a5))) ?_
    refine Eq.trans (jr_s (pc2 := 88) (lv2 := [(7, .int a3), (6, .int 8), (0, .ref 117), (1, .int a1), (2, .int a2), (3, .int a3), (4, .int a4), (5, .int a5)]) (st2 := [.ref 117, .ref 118]) jF_212_87 rfl rfl) ?_
    refine Eq.trans (jr_gf (v := .int 8) jF_212_88 (FD.g5 (fq_56 a1 a2 a3 a4 a5))) ?_
    refine Eq.trans (jr_s (pc2 := 93) (lv2 := [(7, .int a3), (6, .int 8), (0, .ref 117), (1, .int a1), (2, .int a2), (3, .int a3), (4, .int a4), (5, .int a5)]) (st2 := [.int a3, .int 8, .ref 118]) jF_212_91 rfl rfl) ?_
    refine Eq.trans (jr_s (pc2 := 95) (lv2 := [(7, .int a3), (6, .int 8), (0, .ref 117), (1, .int a1), (2, .int a2), (3, .int a3), (4, .int a4), (5, .int a5)]) (st2 := [.int 8, .int a3, .int 8, .ref 118]) jF_212_93 rfl rfl) ?_
    refine Eq.trans (jr_s (pc2 := 96) (lv2 := [(7, .int a3), (6, .int 8), (0, .ref 117), (1, .int a1), (2, .int a2), (3, .int a3), (4, .int a4), (5, .int a5)]) (st2 := [.int 3, .int 8, .int a3, .int 8, .ref 118]) jF_212_95 rfl rfl) ?_
    refine Eq.trans (jr_s (pc2 := 98) (lv2 := [(7, .int a3), (6, .int 8), (0, .ref 117), (1, .int a1), (2, .int a2), (3, .int a3), (4, .int a4), (5, .int a5)]) (st2 := [.int 8, .int 3, .int 8, .int a3, .int 8, .ref 118]) jF_212_96 rfl rfl) ?_
    refine Eq.trans (jr_s (pc2 := 99) (lv2 := [(7, .int a3), (6, .int 8), (0, .ref 117), (1, .int a1), (2, .int a2), (3, .int a3), (4, .int a4), (5, .int a5)]) (st2 := [.int 4, .int 8, .int 3, .int 8, .int a3, .int 8, .ref 118]) jF_212_98 rfl rfl) ?_
    refine Eq.trans (jr_s (pc2 := 100) (lv2 := [(7, .int a3), (6, .int 8), (0, .ref 117), (1, .int a1), (2, .int a2), (3, .int a3), (4, .int a4), (5, .int a5)]) (st2 := [.int 0, .int 3, .int 8, .int a3, .int 8, .ref 118]) jF_212_99 rfl rfl) ?_
    refine Eq.trans (jr_s (pc2 := 101) (lv2 := [(7, .int a3), (6, .int 8), (0, .ref 117), (1, .int a1), (2, .int a2), (3, .int a3), (4, .int a4), (5, .int a5)]) (st2 := [.int 3, .int 8, .int a3, .int 8, .ref 118]) jF_212_100 rfl rfl) ?_
    refine Eq.trans (jr_s (pc2 := 102) (lv2 := [(7, .int a3), (6, .int 8), (0, .ref 117), (1, .int a1), (2, .int a2), (3, .int a3), (4, .int a4), (5, .int a5)]) (st2 := [.int 24, .int a3, .int 8, .ref 118]) jF_212_101 rfl rfl) ?_
    refine Eq.trans (jr_s (pc2 := 103) (lv2 := [(7, .int a3), (6, .int 8), (0, .ref 117), (1, .int a1), (2, .int a2), (3, .int a3), (4, .int a4), (5, .int a5)]) (st2 := [.int (a3 >>> ((24 : Int32) &&& 31)), .int 8, .ref 118]) jF_212_102 rfl rfl) ?_
    refine Eq.trans (jr_s (pc2 := 106) (lv2 := [(7, .int a3), (6, .int 8), (0, .ref 117), (1, .int a1), (2, .int a2), (3, .int a3), (4, .int a4), (5, .int a5)]) (st2 := [.int 255, .int (a3 >>> ((24 : Int32) &&& 31)), .int 8, .ref 118]) jF_212_103 rfl rfl) ?_
    refine Eq.trans (jr_s (pc2 := 107) (lv2 := [(7, .int a3), (6, .int 8), (0, .ref 117), (1, .int a1), (2, .int a2), (3, .int a3), (4, .int a4), (5, .int a5)]) (st2 := [.int ((a3 >>> ((24 : Int32) &&& 31)) &&& 255), .int 8, .ref 118]) jF_212_106 rfl rfl) ?_
    refine Eq.trans (jr_sti (q := 8) jF_212_107 (j_aok_arl (FD.r2 (fq_56 a1 a2 a3 a4 a5)) (by decide)) (by decide +kernel)) ?_
    refine Eq.trans (jr_s (pc2 := 109) (lv2 := [(7, .int a3), (6, .int 8), (0, .ref 117), (1, .int a1), (2, .int a2), (3, .int a3), (4, .int a4), (5, .int a5)]) (st2 := [.ref 117]) jF_212_108 rfl rfl) ?_
    refine Eq.trans (jr_s (pc2 := 110) (lv2 := [(7, .int a3), (6, .int 8), (0, .ref 117), (1, .int a1), (2, .int a2), (3, .int a3), (4, .int a4), (5, .int a5)]) (st2 := [.ref 117, .ref 117]) jF_212_109 rfl rfl) ?_
    refine Eq.trans (jr_gf (v := .int 8) jF_212_110 (FD.g5 (fq_57 a1 a2 a3 a4 a5))) ?_
    refine Eq.trans (jr_s (pc2 := 114) (lv2 := [(7, .int a3), (6, .int 8), (0, .ref 117), (1, .int a1), (2, .int a2), (3, .int a3), (4, .int a4), (5, .int a5)]) (st2 := [.int 1, .int 8, .ref 117]) jF_212_113 rfl rfl) ?_
    refine Eq.trans (jr_s (pc2 := 115) (lv2 := [(7, .int a3), (6, .int 8), (0, .ref 117), (1, .int a1), (2, .int a2), (3, .int a3), (4, .int a4), (5, .int a5)]) (st2 := [.int 9, .ref 117]) jF_212_114 rfl rfl) ?_
    refine Eq.trans (jr_pf jF_212_115 (FD.o2 (fq_57 a1 a2 a3 a4 a5)) rfl) ?_
    refine Eq.trans (jr_s (pc2 := 121) (lv2 := [(6, .int 9), (7, .int a3), (0, .ref 117), (1, .int a1), (2, .int a2), (3, .int a3), (4, .int a4), (5, .int a5)]) (st2 := []) jF_212_118 rfl rfl) ?_
    refine Eq.trans (jr_s (pc2 := 28) (lv2 := [(6, .int 9), (7, .int a3), (0, .ref 117), (1, .int a1), (2, .int a2), (3, .int a3), (4, .int a4), (5, .int a5)]) (st2 := []) jF_212_121 rfl rfl) ?_
    refine Eq.trans (jr_s (pc2 := 30) (lv2 := [(6, .int 9), (7, .int a3), (0, .ref 117), (1, .int a1), (2, .int a2), (3, .int a3), (4, .int a4), (5, .int a5)]) (st2 := [.int 9]) jF_212_28 rfl rfl) ?_
    refine Eq.trans (jr_s (pc2 := 32) (lv2 := [(6, .int 9), (7, .int a3), (0, .ref 117), (1, .int a1), (2, .int a2), (3, .int a3), (4, .int a4), (5, .int a5)]) (st2 := [.int 20, .int 9]) jF_212_30 rfl rfl) ?_
    refine Eq.trans (jr_ic0 jF_212_32 (by decide +kernel)) ?_
    refine Eq.trans (jr_s (pc2 := 37) (lv2 := [(6, .int 9), (7, .int a3), (0, .ref 117), (1, .int a1), (2, .int a2), (3, .int a3), (4, .int a4), (5, .int a5)]) (st2 := [.int 9]) jF_212_35 rfl rfl) ?_
    refine Eq.trans (jr_s (pc2 := 38) (lv2 := [(6, .int 9), (7, .int a3), (0, .ref 117), (1, .int a1), (2, .int a2), (3, .int a3), (4, .int a4), (5, .int a5)]) (st2 := [.int 4, .int 9]) jF_212_37 rfl rfl) ?_
    refine Eq.trans (jr_ic1 jF_212_38 (by decide +kernel)) ?_
    refine Eq.trans (jr_s (pc2 := 47) (lv2 := [(6, .int 9), (7, .int a3), (0, .ref 117), (1, .int a1), (2, .int a2), (3, .int a3), (4, .int a4), (5, .int a5)]) (st2 := [.int 9]) jF_212_45 rfl rfl) ?_
    refine Eq.trans (jr_s (pc2 := 49) (lv2 := [(6, .int 9), (7, .int a3), (0, .ref 117), (1, .int a1), (2, .int a2), (3, .int a3), (4, .int a4), (5, .int a5)]) (st2 := [.int 8, .int 9]) jF_212_47 rfl rfl) ?_
    refine Eq.trans (jr_ic1 jF_212_49 (by decide +kernel)) ?_
    refine Eq.trans (jr_s (pc2 := 58) (lv2 := [(6, .int 9), (7, .int a3), (0, .ref 117), (1, .int a1), (2, .int a2), (3, .int a3), (4, .int a4), (5, .int a5)]) (st2 := [.int 9]) jF_212_56 rfl rfl) ?_
    refine Eq.trans (jr_s (pc2 := 60) (lv2 := [(6, .int 9), (7, .int a3), (0, .ref 117), (1, .int a1), (2, .int a2), (3, .int a3), (4, .int a4), (5, .int a5)]) (st2 := [.int 12, .int 9]) jF_212_58 rfl rfl) ?_
    refine Eq.trans (jr_ic0 jF_212_60 (by decide +kernel)) ?_
    refine Eq.trans (jr_s (pc2 := 64) (lv2 := [(6, .int 9), (7, .int a3), (0, .ref 117), (1, .int a1), (2, .int a2), (3, .int a3), (4, .int a4), (5, .int a5)]) (st2 := [.int a3]) jF_212_63 rfl rfl) ?_
    refine Eq.trans (jr_s (pc2 := 81) (lv2 := [(6, .int 9), (7, .int a3), (0, .ref 117), (1, .int a1), (2, .int a2), (3, .int a3), (4, .int a4), (5, .int a5)]) (st2 := [.int a3]) jF_212_64 rfl rfl) ?_
    refine Eq.trans (jr_s (pc2 := 83) (lv2 := [(7, .int a3), (6, .int 9), (0, .ref 117), (1, .int a1), (2, .int a2), (3, .int a3), (4, .int a4), (5, .int a5)]) (st2 := []) jF_212_81 rfl rfl) ?_
    refine Eq.trans (jr_s (pc2 := 84) (lv2 := [(7, .int a3), (6, .int 9), (0, .ref 117), (1, .int a1), (2, .int a2), (3, .int a3), (4, .int a4), (5, .int a5)]) (st2 := [.ref 117]) jF_212_83 rfl rfl) ?_
    refine Eq.trans (jr_gf (v := .ref 118) jF_212_84 (FD.g4 (fq_58 a1 a2 a3 a4 a5))) ?_
    refine Eq.trans (jr_s (pc2 := 88) (lv2 := [(7, .int a3), (6, .int 9), (0, .ref 117), (1, .int a1), (2, .int a2), (3, .int a3), (4, .int a4), (5, .int a5)]) (st2 := [.ref 117, .ref 118]) jF_212_87 rfl rfl) ?_
    refine Eq.trans (jr_gf (v := .int 9) jF_212_88 (FD.g5 (fq_58 a1 a2 a3 a4 a5))) ?_
    refine Eq.trans (jr_s (pc2 := 93) (lv2 := [(7, .int a3), (6, .int 9), (0, .ref 117), (1, .int a1), (2, .int a2), (3, .int a3), (4, .int a4), (5, .int a5)]) (st2 := [.int a3, .int 9, .ref 118]) jF_212_91 rfl rfl) ?_
    refine Eq.trans (jr_s (pc2 := 95) (lv2 := [(7, .int a3), (6, .int 9), (0, .ref 117), (1, .int a1), (2, .int a2), (3, .int a3), (4, .int a4), (5, .int a5)]) (st2 := [.int 8, .int a3, .int 9, .ref 118]) jF_212_93 rfl rfl) ?_
    refine Eq.trans (jr_s (pc2 := 96) (lv2 := [(7, .int a3), (6, .int 9), (0, .ref 117), (1, .int a1), (2, .int a2), (3, .int a3), (4, .int a4), (5, .int a5)]) (st2 := [.int 3, .int 8, .int a3, .int 9, .ref 118]) jF_212_95 rfl rfl) ?_
    refine Eq.trans (jr_s (pc2 := 98) (lv2 := [(7, .int a3), (6, .int 9), (0, .ref 117), (1, .int a1), (2, .int a2), (3, .int a3), (4, .int a4), (5, .int a5)]) (st2 := [.int 9, .int 3, .int 8, .int a3, .int 9, .ref 118]) jF_212_96 rfl rfl) ?_
    refine Eq.trans (jr_s (pc2 := 99) (lv2 := [(7, .int a3), (6, .int 9), (0, .ref 117), (1, .int a1), (2, .int a2), (3, .int a3), (4, .int a4), (5, .int a5)]) (st2 := [.int 4, .int 9, .int 3, .int 8, .int a3, .int 9, .ref 118]) jF_212_98 rfl rfl) ?_
    refine Eq.trans (jr_s (pc2 := 100) (lv2 := [(7, .int a3), (6, .int 9), (0, .ref 117), (1, .int a1), (2, .int a2), (3, .int a3), (4, .int a4), (5, .int a5)]) (st2 := [.int 1, .int 3, .int 8, .int a3, .int 9, .ref 118]) jF_212_99 rfl rfl) ?_
    refine Eq.trans (jr_s (pc2 := 101) (lv2 := [(7, .int a3), (6, .int 9), (0, .ref 117), (1, .int a1), (2, .int a2), (3, .int a3), (4, .int a4), (5, .int a5)]) (st2 := [.int 2, .int 8, .int a3, .int 9, .ref 118]) jF_212_100 rfl rfl) ?_
    refine Eq.trans (jr_s (pc2 := 102) (lv2 := [(7, .int a3), (6, .int 9), (0, .ref 117), (1, .int a1), (2, .int a2), (3, .int a3), (4, .int a4), (5, .int a5)]) (st2 := [.int 16, .int a3, .int 9, .ref 118]) jF_212_101 rfl rfl) ?_
    refine Eq.trans (jr_s (pc2 := 103) (lv2 := [(7, .int a3), (6, .int 9), (0, .ref 117), (1, .int a1), (2, .int a2), (3, .int a3), (4, .int a4), (5, .int a5)]) (st2 := [.int (a3 >>> ((16 : Int32) &&& 31)), .int 9, .ref 118]) jF_212_102 rfl rfl) ?_
    refine Eq.trans (jr_s (pc2 := 106) (lv2 := [(7, .int a3), (6, .int 9), (0, .ref 117), (1, .int a1), (2, .int a2), (3, .int a3), (4, .int a4), (5, .int a5)]) (st2 := [.int 255, .int (a3 >>> ((16 : Int32) &&& 31)), .int 9, .ref 118]) jF_212_103 rfl rfl) ?_
    refine Eq.trans (jr_s (pc2 := 107) (lv2 := [(7, .int a3), (6, .int 9), (0, .ref 117), (1, .int a1), (2, .int a2), (3, .int a3), (4, .int a4), (5, .int a5)]) (st2 := [.int ((a3 >>> ((16 : Int32) &&& 31)) &&& 255), .int 9, .ref 118]) jF_212_106 rfl rfl) ?_
    refine Eq.trans (jr_sti (q := 9) jF_212_107 (j_aok_arl (FD.r2 (fq_58 a1 a2 a3 a4 a5)) (by decide)) (by decide +kernel)) ?_
    refine Eq.trans (jr_s (pc2 := 109) (lv2 := [(7, .int a3), (6, .int 9), (0, .ref 117), (1, .int a1), (2, .int a2), (3, .int a3), (4, .int a4), (5, .int a5)]) (st2 := [.ref 117]) jF_212_108 rfl rfl) ?_
    refine Eq.trans (jr_s (pc2 := 110) (lv2 := [(7, .int a3), (6, .int 9), (0, .ref 117), (1, .int a1), (2, .int a2), (3, .int a3), (4, .int a4), (5, .int a5)]) (st2 := [.ref 117, .ref 117]) jF_212_109 rfl rfl) ?_
    refine Eq.trans (jr_gf (v := .int 9) jF_212_110 (FD.g5 (fq_59 a1 a2 a3 a4 a5))) ?_
    refine Eq.trans (jr_s (pc2 := 114) (lv2 := [(7, .int a3), (6, .int 9), (0, .ref 117), (1, .int a1), (2, .int a2), (3, .int a3), (4, .int a4), (5, .int a5)]) (st2 := [.int 1, .int 9, .ref 117]) jF_212_113 rfl rfl) ?_
    refine Eq.trans (jr_s (pc2 := 115) (lv2 := [(7, .int a3), (6, .int 9), (0, .ref 117), (1, .int a1), (2, .int a2), (3, .int a3), (4, .int a4), (5, .int a5)]) (st2 := [.int 10, .ref 117]) jF_212_114 rfl rfl) ?_
    refine Eq.trans (jr_pf jF_212_115 (FD.o2 (fq_59 a1 a2 a3 a4 a5)) rfl) ?_
    refine Eq.trans (jr_s (pc2 := 121) (lv2 := [(6, .int 10), (7, .int a3), (0, .ref 117), (1, .int a1), (2, .int a2), (3, .int a3), (4, .int a4), (5, .int a5)]) (st2 := []) jF_212_118 rfl rfl) ?_
    refine Eq.trans (jr_s (pc2 := 28) (lv2 := [(6, .int 10), (7, .int a3), (0, .ref 117), (1, .int a1), (2, .int a2), (3, .int a3), (4, .int a4), (5, .int a5)]) (st2 := []) jF_212_121 rfl rfl) ?_
    refine Eq.trans (jr_s (pc2 := 30) (lv2 := [(6, .int 10), (7, .int a3), (0, .ref 117), (1, .int a1), (2, .int a2), (3, .int a3), (4, .int a4), (5, .int a5)]) (st2 := [.int 10]) jF_212_28 rfl rfl) ?_
    refine Eq.trans (jr_s (pc2 := 32) (lv2 := [(6, .int 10), (7, .int a3), (0, .ref 117), (1, .int a1), (2, .int a2), (3, .int a3), (4, .int a4), (5, .int a5)]) (st2 := [.int 20, .int 10]) jF_212_30 rfl rfl) ?_
    refine Eq.trans (jr_ic0 jF_212_32 (by decide +kernel)) ?_
    refine Eq.trans (jr_s (pc2 := 37) (lv2 := [(6, .int 10), (7, .int a3), (0, .ref 117), (1, .int a1), (2, .int a2), (3, .int a3), (4, .int a4), (5, .int a5)]) (st2 := [.int 10]) jF_212_35 rfl rfl) ?_
    refine Eq.trans (jr_s (pc2 := 38) (lv2 := [(6, .int 10), (7, .int a3), (0, .ref 117), (1, .int a1), (2, .int a2), (3, .int a3), (4, .int a4), (5, .int a5)]) (st2 := [.int 4, .int 10]) jF_212_37 rfl rfl) ?_
    refine Eq.trans (jr_ic1 jF_212_38 (by decide +kernel)) ?_
    refine Eq.trans (jr_s (pc2 := 47) (lv2 := [(6, .int 10), (7, .int a3), (0, .ref 117), (1, .int a1), (2, .int a2), (3, .int a3), (4, .int a4), (5, .int a5)]) (st2 := [.int 10]) jF_212_45 rfl rfl) ?_
    refine Eq.trans (jr_s (pc2 := 49) (lv2 := [(6, .int 10), (7, .int a3), (0, .ref 117), (1, .int a1), (2, .int a2), (3, .int a3), (4, .int a4), (5, .int a5)]) (st2 := [.int 8, .int 10]) jF_212_47 rfl rfl) ?_
    refine Eq.trans (jr_ic1 jF_212_49 (by decide +kernel)) ?_
    refine Eq.trans (jr_s (pc2 := 58) (lv2 := [(6, .int 10), (7, .int a3), (0, .ref 117), (1, .int a1), (2, .int a2), (3, .int a3), (4, .int a4), (5, .int a5)]) (st2 := [.int 10]) jF_212_56 rfl rfl) ?_
    refine Eq.trans (jr_s (pc2 := 60) (lv2 := [(6, .int 10), (7, .int a3), (0, .ref 117), (1, .int a1), (2, .int a2), (3, .int a3), (4, .int a4), (5, .int a5)]) (st2 := [.int 12, .int 10]) jF_212_58 rfl rfl) ?_
    refine Eq.trans (jr_ic0 jF_212_60 (by decide +kernel)) ?_
    refine Eq.trans (jr_s (pc2 := 64) (lv2 := [(6, .int 10), (7, .int a3), (0, .ref 117), (1, .int a1), (2, .int a2), (3, .int a3), (4, .int a4), (5, .int a5)]) (st2 := [.int a3]) jF_212_63 rfl rfl) ?_
    refine Eq.trans (jr_s (pc2 := 81) (lv2 := [(6, .int 10), (7, .int a3), (0, .ref 117), (1, .int a1), (2, .int a2), (3, .int a3), (4, .int a4), (5, .int a5)]) (st2 := [.int a3]) jF_212_64 rfl rfl) ?_
    refine Eq.trans (jr_s (pc2 := 83) (lv2 := [(7, .int a3), (6, .int 10), (0, .ref 117), (1, .int a1), (2, .int a2), (3, .int a3), (4, .int a4), (5, .int a5)]) (st2 := []) jF_212_81 rfl rfl) ?_
    refine Eq.trans (jr_s (pc2 := 84) (lv2 := [(7, .int a3), (6, .int 10), (0, .ref 117), (1, .int a1), (2, .int a2), (3, .int a3), (4, .int a4), (5, .int a5)]) (st2 := [.ref 117]) jF_212_83 rfl rfl) ?_
    refine Eq.trans (jr_gf (v := .ref 118) jF_212_84 (FD.g4 (fq_60 a1 a2 a3 a4 a5))) ?_
    refine Eq.trans (jr_s (pc2 := 88) (lv2 := [(7, .int a3), (6, .int 10), (0, .ref 117), (1, .int a1), (2, .int a2), (3, .int a3), (4, .int a4), (5, .int a5)]) (st2 := [.ref 117, .ref 118]) jF_212_87 rfl rfl) ?_
    refine Eq.trans (jr_gf (v := .int 10) jF_212_88 (FD.g5 (fq_60 a1 a2 a3 a4 a5))) ?_
    refine Eq.trans (jr_s (pc2 := 93) (lv2 := [(7, .int a3), (6, .int 10), (0, .ref 117), (1, .int a1), (2, .int a2), (3, .int a3), (4, .int a4), (5, .int a5)]) (st2 := [.int a3, .int 10, .ref 118]) jF_212_91 rfl rfl) ?_
    refine Eq.trans (jr_s (pc2 := 95) (lv2 := [(7, .int a3), (6, .int 10), (0, .ref 117), (1, .int a1), (2, .int a2), (3, .int a3), (4, .int a4), (5, .int a5)]) (st2 := [.int 8, .int a3, .int 10, .ref 118]) jF_212_93 rfl rfl) ?_
    refine Eq.trans (jr_s (pc2 := 96) (lv2 := [(7, .int a3), (6, .int 10), (0, .ref 117), (1, .int a1), (2, .int a2), (3, .int a3), (4, .int a4), (5, .int a5)]) (st2 := [.int 3, .int 8, .int a3, .int 10, .ref 118]) jF_212_95 rfl rfl) ?_
    refine Eq.trans (jr_s (pc2 := 98) (lv2 := [(7, .int a3), (6, .int 10), (0, .ref 117), (1, .int a1), (2, .int a2), (3, .int a3), (4, .int a4), (5, .int a5)]) (st2 := [.int 10, .int 3, .int 8, .int a3, .int 10, .ref 118]) jF_212_96 rfl rfl) ?_
    refine Eq.trans (jr_s (pc2 := 99) (lv2 := [(7, .int a3), (6, .int 10), (0, .ref 117), (1, .int a1), (2, .int a2), (3, .int a3), (4, .int a4), (5, .int a5)]) (st2 := [.int 4, .int 10, .int 3, .int 8, .int a3, .int 10, .ref 118]) jF_212_98 rfl rfl) ?_
    refine Eq.trans (jr_s (pc2 := 100) (lv2 := [(7, .int a3), (6, .int 10), (0, .ref 117), (1, .int a1), (2, .int a2), (3, .int a3), (4, .int a4), (5, .int a5)]) (st2 := [.int 2, .int 3, .int 8, .int a3, .int 10, .ref 118]) jF_212_99 rfl rfl) ?_
    refine Eq.trans (jr_s (pc2 := 101) (lv2 := [(7, .int a3), (6, .int 10), (0, .ref 117), (1, .int a1), (2, .int a2), (3, .int a3), (4, .int a4), (5, .int a5)]) (st2 := [.int 1, .int 8, .int a3, .int 10, .ref 118]) jF_212_100 rfl rfl) ?_
    refine Eq.trans (jr_s (pc2 := 102) (lv2 := [(7, .int a3), (6, .int 10), (0, .ref 117), (1, .int a1), (2, .int a2), (3, .int a3), (4, .int a4), (5, .int a5)]) (st2 := [.int 8, .int a3, .int 10, .ref 118]) jF_212_101 rfl rfl) ?_
    refine Eq.trans (jr_s (pc2 := 103) (lv2 := [(7, .int a3), (6, .int 10), (0, .ref 117), (1, .int a1), (2, .int a2), (3, .int a3), (4, .int a4), (5, .int a5)]) (st2 := [.int (a3 >>> ((8 : Int32) &&& 31)), .int 10, .ref 118]) jF_212_102 rfl rfl) ?_
    refine Eq.trans (jr_s (pc2 := 106) (lv2 := [(7, .int a3), (6, .int 10), (0, .ref 117), (1, .int a1), (2, .int a2), (3, .int a3), (4, .int a4), (5, .int a5)]) (st2 := [.int 255, .int (a3 >>> ((8 : Int32) &&& 31)), .int 10, .ref 118]) jF_212_103 rfl rfl) ?_
    refine Eq.trans (jr_s (pc2 := 107) (lv2 := [(7, .int a3), (6, .int 10), (0, .ref 117), (1, .int a1), (2, .int a2), (3, .int a3), (4, .int a4), (5, .int a5)]) (st2 := [.int ((a3 >>> ((8 : Int32) &&& 31)) &&& 255), .int 10, .ref 118]) jF_212_106 rfl rfl) ?_
    refine Eq.trans (jr_sti (q := 10) jF_212_107 (j_aok_arl (FD.r2 (fq_60 a1 a2 a3 a4 a5)) (by decide)) (by decide +kernel)) ?_
    refine Eq.trans (jr_s (pc2 := 109) (lv2 := [(7, .int a3), (6, .int 10), (0, .ref 117), (1, .int a1), (2, .int a2), (3, .int a3), (4, .int a4), (5, .int a5)]) (st2 := [.ref 117]) jF_212_108 rfl rfl) ?_
    refine Eq.trans (jr_s (pc2 := 110) (lv2 := [(7, .int a3), (6, .int 10), (0, .ref 117), (1, .int a1), (2, .int a2), (3, .int a3), (4, .int a4), (5, .int a5)]) (st2 := [.ref 117, .ref 117]) jF_212_109 rfl rfl) ?_
    refine Eq.trans (jr_gf (v := .int 10) jF_212_110 (FD.g5 (fq_61 a1 a2 a3 a4 a5))) ?_
    refine Eq.trans (jr_s (pc2 := 114) (lv2 := [(7, .int a3), (6, .int 10), (0, .ref 117), (1, .int a1), (2, .int a2), (3, .int a3), (4, .int a4), (5, .int a5)]) (st2 := [.int 1, .int 10, .ref 117]) jF_212_113 rfl rfl) ?_
    refine Eq.trans (jr_s (pc2 := 115) (lv2 := [(7, .int a3), (6, .int 10), (0, .ref 117), (1, .int a1), (2, .int a2), (3, .int a3), (4, .int a4), (5, .int a5)]) (st2 := [.int 11, .ref 117]) jF_212_114 rfl rfl) ?_
    refine Eq.trans (jr_pf jF_212_115 (FD.o2 (fq_61 a1 a2 a3 a4 a5)) rfl) ?_
    refine Eq.trans (jr_s (pc2 := 121) (lv2 := [(6, .int 11), (7, .int a3), (0, .ref 117), (1, .int a1), (2, .int a2), (3, .int a3), (4, .int a4), (5, .int a5)]) (st2 := []) jF_212_118 rfl rfl) ?_
    refine Eq.trans (jr_s (pc2 := 28) (lv2 := [(6, .int 11), (7, .int a3), (0, .ref 117), (1, .int a1), (2, .int a2), (3, .int a3), (4, .int a4), (5, .int a5)]) (st2 := []) jF_212_121 rfl rfl) ?_
    refine Eq.trans (jr_s (pc2 := 30) (lv2 := [(6, .int 11), (7, .int a3), (0, .ref 117), (1, .int a1), (2, .int a2), (3, .int a3), (4, .int a4), (5, .int a5)]) (st2 := [.int 11]) jF_212_28 rfl rfl) ?_
    refine Eq.trans (jr_s (pc2 := 32) (lv2 := [(6, .int 11), (7, .int a3), (0, .ref 117), (1, .int a1), (2, .int a2), (3, .int a3), (4, .int a4), (5, .int a5)]) (st2 := [.int 20, .int 11]) jF_212_30 rfl rfl) ?_
    refine Eq.trans (jr_ic0 jF_212_32 (by decide +kernel)) ?_
    refine Eq.trans (jr_s (pc2 := 37) (lv2 := [(6, .int 11), (7, .int a3), (0, .ref 117), (1, .int a1), (2, .int a2), (3, .int a3), (4, .int a4), (5, .int a5)]) (st2 := [.int 11]) jF_212_35 rfl rfl) ?_
    refine Eq.trans (jr_s (pc2 := 38) (lv2 := [(6, .int 11), (7, .int a3), (0, .ref 117), (1, .int a1), (2, .int a2), (3, .int a3), (4, .int a4), (5, .int a5)]) (st2 := [.int 4, .int 11]) jF_212_37 rfl rfl) ?_
    refine Eq.trans (jr_ic1 jF_212_38 (by decide +kernel)) ?_
    refine Eq.trans (jr_s (pc2 := 47) (lv2 := [(6, .int 11), (7, .int a3), (0, .ref 117), (1, .int a1), (2, .int a2), (3, .int a3), (4, .int a4), (5, .int a5)]) (st2 := [.int 11]) jF_212_45 rfl rfl) ?_
    refine Eq.trans (jr_s (pc2 := 49) (lv2 := [(6, .int 11), (7, .int a3), (0, .ref 117), (1, .int a1), (2, .int a2), (3, .int a3), (4, .int a4), (5, .int a5)]) (st2 := [.int 8, .int 11]) jF_212_47 rfl rfl) ?_
    refine Eq.trans (jr_ic1 jF_212_49 (by decide +kernel)) ?_
    refine Eq.trans (jr_s (pc2 := 58) (lv2 := [(6, .int 11), (7, .int a3), (0, .ref 117), (1, .int a1), (2, .int a2), (3, .int a3), (4, .int a4), (5, .int a5)]) (st2 := [.int 11]) jF_212_56 rfl rfl) ?_
    refine Eq.trans (jr_s (pc2 := 60) (lv2 := [(6, .int 11), (7, .int a3), (0, .ref 117), (1, .int a1), (2, .int a2), (3, .int a3), (4, .int a4), (5, .int a5)]) (st2 := [.int 12, .int 11]) jF_212_58 rfl rfl) ?_
    refine Eq.trans (jr_ic0 jF_212_60 (by decide +kernel)) ?_
    refine Eq.trans (jr_s (pc2 := 64) (lv2 := [(6, .int 11), (7, .int a3), (0, .ref 117), (1, .int a1), (2, .int a2), (3, .int a3), (4, .int a4), (5, .int a5)]) (st2 := [.int a3]) jF_212_63 rfl rfl) ?_
    refine Eq.trans (jr_s (pc2 := 81) (lv2 := [(6, .int 11), (7, .int a3), (0, .ref 117), (1, .int a1), (2, .int a2), (3, .int a3), (4, .int a4), (5, .int a5)]) (st2 := [.int a3]) jF_212_64 rfl rfl) ?_
    refine Eq.trans (jr_s (pc2 := 83) (lv2 := [(7, .int a3), (6, .int 11), (0, .ref 117), (1, .int a1), (2, .int a2), (3, .int a3), (4, .int a4), (5, .int a5)]) (st2 := []) jF_212_81 rfl rfl) ?_
    refine Eq.trans (jr_s (pc2 := 84) (lv2 := [(7, .int a3), (6, .int 11), (0, .ref 117), (1, .int a1), (2, .int a2), (3, .int a3), (4, .int a4), (5, .int a5)]) (st2 := [.ref 117]) jF_212_83 rfl rfl) ?_
    refine Eq.trans (jr_gf (v := .ref 118) jF_212_84 (FD.g4 (fq_62 a1 a2 a3 a4 a5))) ?_
    refine Eq.trans (jr_s (pc2 := 88) (lv2 := [(7, .int a3), (6, .int 11), (0, .ref 117), (1, .int a1), (2, .int a2), (3, .int a3), (4, .int a4), (5, .int a5)]) (st2 := [.ref 117, .ref 118]) jF_212_87 rfl rfl) ?_
    refine Eq.trans (jr_gf (v := .int 11) jF_212_88 (FD.g5 (fq_62 a1 a2 a3 a4 a5))) ?_
    refine Eq.trans (jr_s (pc2 := 93) (lv2 := [(7, .int a3), (6, .int 11), (0, .ref 117), (1, .int a1), (2, .int a2), (3, .int a3), (4, .int a4), (5, .int a5)]) (st2 := [.int a3, .int 11, .ref 118]) jF_212_91 rfl rfl) ?_
    refine Eq.trans (jr_s (pc2 := 95) (lv2 := [(7, .int a3), (6, .int 11), (0, .ref 117), (1, .int a1), (2, .int a2), (3, .int a3), (4, .int a4), (5, .int a5)]) (st2 := [.int 8, .int a3, .int 11, .ref 118]) jF_212_93 rfl rfl) ?_
    refine Eq.trans (jr_s (pc2 := 96) (lv2 := [(7, .int a3), (6, .int 11), (0, .ref 117), (1, .int a1), (2, .int a2), (3, .int a3), (4, .int a4), (5, .int a5)]) (st2 := [.int 3, .int 8, .int a3, .int 11, .ref 118]) jF_212_95 rfl rfl) ?_
    refine Eq.trans (jr_s (pc2 := 98) (lv2 := [(7, .int a3), (6, .int 11), (0, .ref 117), (1, .int a1), (2, .int a2), (3, .int a3), (4, .int a4), (5, .int a5)]) (st2 := [.int 11, .int 3, .int 8, .int a3, .int 11, .ref 118]) jF_212_96 rfl rfl) ?_
    refine Eq.trans (jr_s (pc2 := 99) (lv2 := [(7, .int a3), (6, .int 11), (0, .ref 117), (1, .int a1), (2, .int a2), (3, .int a3), (4, .int a4), (5, .int a5)]) (st2 := [.int 4, .int 11, .int 3, .int 8, .int a3, .int 11, .ref 118]) jF_212_98 rfl rfl) ?_
    refine Eq.trans (jr_s (pc2 := 100) (lv2 := [(7, .int a3), (6, .int 11), (0, .ref 117), (1, .int a1), (2, .int a2), (3, .int a3), (4, .int a4), (5, .int a5)]) (st2 := [.int 3, .int 3, .int 8, .int a3, .int 11, .ref 118]) jF_212_99 rfl rfl) ?_
    refine Eq.trans (jr_s (pc2 := 101) (lv2 := [(7, .int a3), (6, .int 11), (0, .ref 117), (1, .int a1), (2, .int a2), (3, .int a3), (4, .int a4), (5, .int a5)]) (st2 := [.int 0, .int 8, .int a3, .int 11, .ref 118]) jF_212_100 rfl rfl) ?_
    refine Eq.trans (jr_s (pc2 := 102) (lv2 := [(7, .int a3), (6, .int 11), (0, .ref 117), (1, .int a1), (2, .int a2), (3, .int a3), (4, .int a4), (5, .int a5)]) (st2 := [.int 0, .int a3, .int 11, .ref 118]) jF_212_101 rfl rfl) ?_
    refine Eq.trans (jr_s (pc2 := 103) (lv2 := [(7, .int a3), (6, .int 11), (0, .ref 117), (1, .int a1), (2, .int a2), (3, .int a3), (4, .int a4), (5, .int a5)]) (st2 := [.int (a3 >>> ((0 : Int32) &&& 31)), .int 11, .ref 118]) jF_212_102 rfl rfl) ?_
    refine Eq.trans (jr_s (pc2 := 106) (lv2 := [(7, .int a3), (6, .int 11), (0, .ref 117), (1, .int a1), (2, .int a2), (3, .int a3), (4, .int a4), (5, .int a5)]) (st2 := [.int 255, .int (a3 >>> ((0 : Int32) &&& 31)), .int 11, .ref 118]) jF_212_103 rfl rfl) ?_
    refine Eq.trans (jr_s (pc2 := 107) (lv2 := [(7, .int a3), (6, .int 11), (0, .ref 117), (1, .int a1), (2, .int a2), (3, .int a3), (4, .int a4), (5, .int a5)]) (st2 := [.int ((a3 >>> ((0 : Int32) &&& 31)) &&& 255), .int 11, .ref 118]) jF_212_106 rfl rfl) ?_
    refine Eq.trans (jr_sti (q := 11) jF_212_107 (j_aok_arl (FD.r2 (fq_62 a1 a2 a3 a4 a5)) (by decide)) (by decide +kernel)) ?_
    refine Eq.trans (jr_s (pc2 := 109) (lv2 := [(7, .int a3), (6, .int 11), (0, .ref 117), (1, .int a1), (2, .int a2), (3, .int a3), (4, .int a4), (5, .int a5)]) (st2 := [.ref 117]) jF_212_108 rfl rfl) ?_
    refine Eq.trans (jr_s (pc2 := 110) (lv2 := [(7, .int a3), (6, .int 11), (0, .ref 117), (1, .int a1), (2, .int a2), (3, .int a3), (4, .int a4), (5, .int a5)]) (st2 := [.ref 117, .ref 117]) jF_212_109 rfl rfl) ?_
    refine Eq.trans (jr_gf (v := .int 11) jF_212_110 (FD.g5 (fq_63 a1 a2 a3 a4 a5))) ?_
    refine Eq.trans (jr_s (pc2 := 114) (lv2 := [(7, .int a3), (6, .int 11), (0, .ref 117), (1, .int a1), (2, .int a2), (3, .int a3), (4, .int a4), (5, .int a5)]) (st2 := [.int 1, .int 11, .ref 117]) jF_212_113 rfl rfl) ?_
    refine Eq.trans (jr_s (pc2 := 115) (lv2 := [(7, .int a3), (6, .int 11), (0, .ref 117), (1, .int a1), (2, .int a2), (3, .int a3), (4, .int a4), (5, .int a5)]) (st2 := [.int 12, .ref 117]) jF_212_114 rfl rfl) ?_
    refine Eq.trans (jr_pf jF_212_115 (FD.o2 (fq_63 a1 a2 a3 a4 a5)) rfl) ?_
    refine Eq.trans (jr_s (pc2 := 121) (lv2 := [(6, .int 12), (7, .int a3), (0, .ref 117), (1, .int a1), (2, .int a2), (3, .int a3), (4, .int a4), (5, .int a5)]) (st2 := []) jF_212_118 rfl rfl) ?_
    refine Eq.trans (jr_s (pc2 := 28) (lv2 := [(6, .int 12), (7, .int a3), (0, .ref 117), (1, .int a1), (2, .int a2), (3, .int a3), (4, .int a4), (5, .int a5)]) (st2 := []) jF_212_121 rfl rfl) ?_
    refine Eq.trans (jr_s (pc2 := 30) (lv2 := [(6, .int 12), (7, .int a3), (0, .ref 117), (1, .int a1), (2, .int a2), (3, .int a3), (4, .int a4), (5, .int a5)]) (st2 := [.int 12]) jF_212_28 rfl rfl) ?_
    refine Eq.trans (jr_s (pc2 := 32) (lv2 := [(6, .int 12), (7, .int a3), (0, .ref 117), (1, .int a1), (2, .int a2), (3, .int a3), (4, .int a4), (5, .int a5)]) (st2 := [.int 20, .int 12]) jF_212_30 rfl rfl) ?_
    refine Eq.trans (jr_ic0 jF_212_32 (by decide +kernel)) ?_
    refine Eq.trans (jr_s (pc2 := 37) (lv2 := [(6, .int 12), (7, .int a3), (0, .ref 117), (1, .int a1), (2, .int a2), (3, .int a3), (4, .int a4), (5, .int a5)]) (st2 := [.int 12]) jF_212_35 rfl rfl) ?_
    refine Eq.trans (jr_s (pc2 := 38) (lv2 := [(6, .int 12), (7, .int a3), (0, .ref 117), (1, .int a1), (2, .int a2), (3, .int a3), (4, .int a4), (5, .int a5)]) (st2 := [.int 4, .int 12]) jF_212_37 rfl rfl) ?_
    refine Eq.trans (jr_ic1 jF_212_38 (by decide +kernel)) ?_
    refine Eq.trans (jr_s (pc2 := 47) (lv2 := [(6, .int 12), (7, .int a3), (0, .ref 117), (1, .int a1), (2, .int a2), (3, .int a3), (4, .int a4), (5, .int a5)]) (st2 := [.int 12]) jF_212_45 rfl rfl) ?_
    refine Eq.trans (jr_s (pc2 := 49) (lv2 := [(6, .int 12), (7, .int a3), (0, .ref 117), (1, .int a1), (2, .int a2), (3, .int a3), (4, .int a4), (5, .int a5)]) (st2 := [.int 8, .int 12]) jF_212_47 rfl rfl) ?_
    refine Eq.trans (jr_ic1 jF_212_49 (by decide +kernel)) ?_
    refine Eq.trans (jr_s (pc2 := 58) (lv2 := [(6, .int 12), (7, .int a3), (0, .ref 117), (1, .int a1), (2, .int a2), (3, .int a3), (4, .int a4), (5, .int a5)]) (st2 := [.int 12]) jF_212_56 rfl rfl) ?_
    refine Eq.trans (jr_s (pc2 := 60) (lv2 := [(6, .int 12), (7, .int a3), (0, .ref 117), (1, .int a1), (2, .int a2), (3, .int a3), (4, .int a4), (5, .int a5)]) (st2 := [.int 12, .int 12]) jF_212_58 rfl rfl) ?_
    refine Eq.trans (jr_ic1 jF_212_60 (by decide +kernel)) ?_
    refine Eq.trans (jr_s (pc2 := 69) (lv2 := [(6, .int 12), (7, .int a3), (0, .ref 117), (1, .int a1), (2, .int a2), (3, .int a3), (4, .int a4), (5, .int a5)]) (st2 := [.int 12]) jF_212_67 rfl rfl) ?_
    refine Eq.trans (jr_s (pc2 := 71) (lv2 := [(6, .int 12), (7, .int a3), (0, .ref 117), (1, .int a1), (2, .int a2), (3, .int a3), (4, .int a4), (5, .int a5)]) (st2 := [.int 16, .int 12]) jF_212_69 rfl rfl) ?_
    refine Eq.trans (jr_ic0 jF_212_71 (by decide +kernel)) ?_
    refine Eq.trans (jr_s (pc2 := 76) (lv2 := [(6, .int 12), (7, .int a3), (0, .ref 117), (1, .int a1), (2, .int a2), (3, .int a3), (4, .int a4), (5, .int a5)]) (st2 := [.int a4]) jF_212_74 rfl rfl) ?_
    refine Eq.trans (jr_s (pc2 := 81) (lv2 := [(6, .int 12), (7, .int a3), (0, .ref 117), (1, .int a1), (2, .int a2), (3, .int a3), (4, .int a4), (5, .int a5)]) (st2 := [.int a4]) jF_212_76 rfl rfl) ?_
    refine Eq.trans (jr_s (pc2 := 83) (lv2 := [(7, .int a4), (6, .int 12), (0, .ref 117), (1, .int a1), (2, .int a2), (3, .int a3), (4, .int a4), (5, .int a5)]) (st2 := []) jF_212_81 rfl rfl) ?_
    refine Eq.trans (jr_s (pc2 := 84) (lv2 := [(7, .int a4), (6, .int 12), (0, .ref 117), (1, .int a1), (2, .int a2), (3, .int a3), (4, .int a4), (5, .int a5)]) (st2 := [.ref 117]) jF_212_83 rfl rfl) ?_
    refine Eq.trans (jr_gf (v := .ref 118) jF_212_84 (FD.g4 (fq_64 a1 a2 a3 a4 a5))) ?_
    refine Eq.trans (jr_s (pc2 := 88) (lv2 := [(7, .int a4), (6, .int 12), (0, .ref 117), (1, .int a1), (2, .int a2), (3, .int a3), (4, .int a4), (5, .int a5)]) (st2 := [.ref 117, .ref 118]) jF_212_87 rfl rfl) ?_
    refine Eq.trans (jr_gf (v := .int 12) jF_212_88 (FD.g5 (fq_64 a1 a2 a3 a4 a5))) ?_
    refine Eq.trans (jr_s (pc2 := 93) (lv2 := [(7, .int a4), (6, .int 12), (0, .ref 117), (1, .int a1), (2, .int a2), (3, .int a3), (4, .int a4), (5, .int a5)]) (st2 := [.int a4, .int 12, .ref 118]) jF_212_91 rfl rfl) ?_
    refine Eq.trans (jr_s (pc2 := 95) (lv2 := [(7, .int a4), (6, .int 12), (0, .ref 117), (1, .int a1), (2, .int a2), (3, .int a3), (4, .int a4), (5, .int a5)]) (st2 := [.int 8, .int a4, .int 12, .ref 118]) jF_212_93 rfl rfl) ?_
    refine Eq.trans (jr_s (pc2 := 96) (lv2 := [(7, .int a4), (6, .int 12), (0, .ref 117), (1, .int a1), (2, .int a2), (3, .int a3), (4, .int a4), (5, .int a5)]) (st2 := [.int 3, .int 8, .int a4, .int 12, .ref 118]) jF_212_95 rfl rfl) ?_
    refine Eq.trans (jr_s (pc2 := 98) (lv2 := [(7, .int a4), (6, .int 12), (0, .ref 117), (1, .int a1), (2, .int a2), (3, .int a3), (4, .int a4), (5, .int a5)]) (st2 := [.int 12, .int 3, .int 8, .int a4, .int 12, .ref 118]) jF_212_96 rfl rfl) ?_
    refine Eq.trans (jr_s (pc2 := 99) (lv2 := [(7, .int a4), (6, .int 12), (0, .ref 117), (1, .int a1), (2, .int a2), (3, .int a3), (4, .int a4), (5, .int a5)]) (st2 := [.int 4, .int 12, .int 3, .int 8, .int a4, .int 12, .ref 118]) jF_212_98 rfl rfl) ?_
    refine Eq.trans (jr_s (pc2 := 100) (lv2 := [(7, .int a4), (6, .int 12), (0, .ref 117), (1, .int a1), (2, .int a2), (3, .int a3), (4, .int a4), (5, .int a5)]) (st2 := [.int 0, .int 3, .int 8, .int a4, .int 12, .ref 118]) jF_212_99 rfl rfl) ?_
    refine Eq.trans (jr_s (pc2 := 101) (lv2 := [(7, .int a4), (6, .int 12), (0, .ref 117), (1, .int a1), (2, .int a2), (3, .int a3), (4, .int a4), (5, .int a5)]) (st2 := [.int 3, .int 8, .int a4, .int 12, .ref 118]) jF_212_100 rfl rfl) ?_
    refine Eq.trans (jr_s (pc2 := 102) (lv2 := [(7, .int a4), (6, .int 12), (0, .ref 117), (1, .int a1), (2, .int a2), (3, .int a3), (4, .int a4), (5, .int a5)]) (st2 := [.int 24, .int a4, .int 12, .ref 118]) jF_212_101 rfl rfl) ?_
    refine Eq.trans (jr_s (pc2 := 103) (lv2 := [(7, .int a4), (6, .int 12), (0, .ref 117), (1, .int a1), (2, .int a2), (3, .int a3), (4, .int a4), (5, .int a5)]) (st2 := [.int (a4 >>> ((24 : Int32) &&& 31)), .int 12, .ref 118]) jF_212_102 rfl rfl) ?_
    refine Eq.trans (jr_s (pc2 := 106) (lv2 := [(7, .int a4), (6, .int 12), (0, .ref 117), (1, .int a1), (2, .int a2), (3, .int a3), (4, .int a4), (5, .int a5)]) (st2 := [.int 255, .int (a4 >>> ((24 : Int32) &&& 31)), .int 12, .ref 118]) jF_212_103 rfl rfl) ?_
    refine Eq.trans (jr_s (pc2 := 107) (lv2 := [(7, .int a4), (6, .int 12), (0, .ref 117), (1, .int a1), (2, .int a2), (3, .int a3), (4, .int a4), (5, .int a5)]) (st2 := [.int ((a4 >>> ((24 : Int32) &&& 31)) &&& 255), .int 12, .ref 118]) jF_212_106 rfl rfl) ?_
    refine Eq.trans (jr_sti (q := 12) jF_212_107 (j_aok_arl (FD.r2 (fq_64 a1 a2 a3 a4 a5)) (by decide)) (by decide +kernel)) ?_
    refine Eq.trans (jr_s (pc2 := 109) (lv2 := [(7, .int a4), (6, .int 12), (0, .ref 117), (1, .int a1), (2, .int a2), (3, .int a3), (4, .int a4), (5, .int a5)]) (st2 := [.ref 117]) jF_212_108 rfl rfl) ?_
    refine Eq.trans (jr_s (pc2 := 110) (lv2 := [(7, .int a4), (6, .int 12), (0, .ref 117), (1, .int a1), (2, .int a2), (3, .int a3), (4, .int a4), (5, .int a5)]) (st2 := [.ref 117, .ref 117]) jF_212_109 rfl rfl) ?_
    refine Eq.trans (jr_gf (v := .int 12) jF_212_110 (FD.g5 (fq_65 a1 a2 a3 a4 a5))) ?_
    refine Eq.trans (jr_s (pc2 := 114) (lv2 := [(7, .int a4), (6, .int 12), (0, .ref 117), (1, .int a1), (2, .int a2), (3, .int a3), (4, .int a4), (5, .int a5)]) (st2 := [.int 1, .int 12, .ref 117]) jF_212_113 rfl rfl) ?_
    refine Eq.trans (jr_s (pc2 := 115) (lv2 := [(7, .int a4), (6, .int 12), (0, .ref 117), (1, .int a1), (2, .int a2), (3, .int a3), (4, .int a4), (5, .int a5)]) (st2 := [.int 13, .ref 117]) jF_212_114 rfl rfl) ?_
    refine Eq.trans (jr_pf jF_212_115 (FD.o2 (fq_65 a1 a2 a3 a4 a5)) rfl) ?_
    refine Eq.trans (jr_s (pc2 := 121) (lv2 := [(6, .int 13), (7, .int a4), (0, .ref 117), (1, .int a1), (2, .int a2), (3, .int a3), (4, .int a4), (5, .int a5)]) (st2 := []) jF_212_118 rfl rfl) ?_
    refine Eq.trans (jr_s (pc2 := 28) (lv2 := [(6, .int 13), (7, .int a4), (0, .ref 117), (1, .int a1), (2, .int a2), (3, .int a3), (4, .int a4), (5, .int a5)]) (st2 := []) jF_212_121 rfl rfl) ?_
    refine Eq.trans (jr_s (pc2 := 30) (lv2 := [(6, .int 13), (7, .int a4), (0, .ref 117), (1, .int a1), (2, .int a2), (3, .int a3), (4, .int a4), (5, .int a5)]) (st2 := [.int 13]) jF_212_28 rfl rfl) ?_
    refine Eq.trans (jr_s (pc2 := 32) (lv2 := [(6, .int 13), (7, .int a4), (0, .ref 117), (1, .int a1), (2, .int a2), (3, .int a3), (4, .int a4), (5, .int a5)]) (st2 := [.int 20, .int 13]) jF_212_30 rfl rfl) ?_
    refine Eq.trans (jr_ic0 jF_212_32 (by decide +kernel)) ?_
    refine Eq.trans (jr_s (pc2 := 37) (lv2 := [(6, .int 13), (7, .int a4), (0, .ref 117), (1, .int a1), (2, .int a2), (3, .int a3), (4, .int a4), (5, .int a5)]) (st2 := [.int 13]) jF_212_35 rfl rfl) ?_
    refine Eq.trans (jr_s (pc2 := 38) (lv2 := [(6, .int 13), (7, .int a4), (0, .ref 117), (1, .int a1), (2, .int a2), (3, .int a3), (4, .int a4), (5, .int a5)]) (st2 := [.int 4, .int 13]) jF_212_37 rfl rfl) ?_
    refine Eq.trans (jr_ic1 jF_212_38 (by decide +kernel)) ?_
    refine Eq.trans (jr_s (pc2 := 47) (lv2 := [(6, .int 13), (7, .int a4), (0, .ref 117), (1, .int a1), (2, .int a2), (3, .int a3), (4, .int a4), (5, .int a5)]) (st2 := [.int 13]) jF_212_45 rfl rfl) ?_
    refine Eq.trans (jr_s (pc2 := 49) (lv2 := [(6, .int 13), (7, .int a4), (0, .ref 117), (1, .int a1), (2, .int a2), (3, .int a3), (4, .int a4), (5, .int a5)]) (st2 := [.int 8, .int 13]) jF_212_47 rfl rfl) ?_
    refine Eq.trans (jr_ic1 jF_212_49 (by decide +kernel)) ?_
    refine Eq.trans (jr_s (pc2 := 58) (lv2 := [(6, .int 13), (7, .int a4), (0, .ref 117), (1, .int a1), (2, .int a2), (3, .int a3), (4, .int a4), (5, .int a5)]) (st2 := [.int 13]) jF_212_56 rfl rfl) ?_
    refine Eq.trans (jr_s (pc2 := 60) (lv2 := [(6, .int 13), (7, .int a4), (0, .ref 117), (1, .int a1), (2, .int a2), (3, .int a3), (4, .int a4), (5, .int a5)]) (st2 := [.int 12, .int 13]) jF_212_58 rfl rfl) ?_
    refine Eq.trans (jr_ic1 jF_212_60 (by decide +kernel)) ?_
    refine Eq.trans (jr_s (pc2 := 69) (lv2 := [(6, .int 13), (7, .int a4), (0, .ref 117), (1, .int a1), (2, .int a2), (3, .int a3), (4, .int a4), (5, .int a5)]) (st2 := [.int 13]) jF_212_67 rfl rfl) ?_
    refine Eq.trans (jr_s (pc2 := 71) (lv2 := [(6, .int 13), (7, .int a4), (0, .ref 117), (1, .int a1), (2, .int a2), (3, .int a3), (4, .int a4), (5, .int a5)]) (st2 := [.int 16, .int 13]) jF_212_69 rfl rfl) ?_
    refine Eq.trans (jr_ic0 jF_212_71 (by decide +kernel)) ?_
    refine Eq.trans (jr_s (pc2 := 76) (lv2 := [(6, .int 13), (7, .int a4), (0, .ref 117), (1, .int a1), (2, .int a2), (3, .int a3), (4, .int a4), (5, .int a5)]) (st2 := [.int a4]) jF_212_74 rfl rfl) ?_
    refine Eq.trans (jr_s (pc2 := 81) (lv2 := [(6, .int 13), (7, .int a4), (0, .ref 117), (1, .int a1), (2, .int a2), (3, .int a3), (4, .int a4), (5, .int a5)]) (st2 := [.int a4]) jF_212_76 rfl rfl) ?_
    refine Eq.trans (jr_s (pc2 := 83) (lv2 := [(7, .int a4), (6, .int 13), (0, .ref 117), (1, .int a1), (2, .int a2), (3, .int a3), (4, .int a4), (5, .int a5)]) (st2 := []) jF_212_81 rfl rfl) ?_
    refine Eq.trans (jr_s (pc2 := 84) (lv2 := [(7, .int a4), (6, .int 13), (0, .ref 117), (1, .int a1), (2, .int a2), (3, .int a3), (4, .int a4), (5, .int a5)]) (st2 := [.ref 117]) jF_212_83 rfl rfl) ?_
    refine Eq.trans (jr_gf (v := .ref 118) jF_212_84 (FD.g4 (fq_66 a1 a2 a3 a4 a5))) ?_
    refine Eq.trans (jr_s (pc2 := 88) (lv2 := [(7, .int a4), (6, .int 13), (0, .ref 117), (1, .int a1), (2, .int a2), (3, .int a3), (4, .int a4), (5, .int a5)]) (st2 := [.ref 117, .ref 118]) jF_212_87 rfl rfl) ?_
    refine Eq.trans (jr_gf (v := .int 13) jF_212_88 (FD.g5 (fq_66 a1 a2 a3 a4 a5))) ?_
    refine Eq.trans (jr_s (pc2 := 93) (lv2 := [(7, .int a4), (6, .int 13), (0, .ref 117), (1, .int a1), (2, .int a2), (3, .int a3), (4, .int a4), (5, .int a5)]) (st2 := [.int a4, .int 13, .ref 118]) jF_212_91 rfl rfl) ?_
    refine Eq.trans (jr_s (pc2 := 95) (lv2 := [(7, .int a4), (6, .int 13), (0, .ref 117), (1, .int a1), (2, .int a2), (3, .int a3), (4, .int a4), (5, .int a5)]) (st2 := [.int 8, .int a4, .int 13, .ref 118]) jF_212_93 rfl rfl) ?_
    refine Eq.trans (jr_s (pc2 := 96) (lv2 := [(7, .int a4), (6, .int 13), (0, .ref 117), (1, .int a1), (2, .int a2), (3, .int a3), (4, .int a4), (5, .int a5)]) (st2 := [.int 3, .int 8, .int a4, .int 13, .ref 118]) jF_212_95 rfl rfl) ?_
    refine Eq.trans (jr_s (pc2 := 98) (lv2 := [(7, .int a4), (6, .int 13), (0, .ref 117), (1, .int a1), (2, .int a2), (3, .int a3), (4, .int a4), (5, .int a5)]) (st2 := [.int 13, .int 3, .int 8, .int a4, .int 13, .ref 118]) jF_212_96 rfl rfl) ?_
    refine Eq.trans (jr_s (pc2 := 99) (lv2 := [(7, .int a4), (6, .int 13), (0, .ref 117), (1, .int a1), (2, .int a2), (3, .int a3), (4, .int a4), (5, .int a5)]) (st2 := [.int 4, .int 13, .int 3, .int 8, .int a4, .int 13, .ref 118]) jF_212_98 rfl rfl) ?_
    refine Eq.trans (jr_s (pc2 := 100) (lv2 := [(7, .int a4), (6, .int 13), (0, .ref 117), (1, .int a1), (2, .int a2), (3, .int a3), (4, .int a4), (5, .int a5)]) (st2 := [.int 1, .int 3, .int 8, .int a4, .int 13, .ref 118]) jF_212_99 rfl rfl) ?_
    refine Eq.trans (jr_s (pc2 := 101) (lv2 := [(7, .int a4), (6, .int 13), (0, .ref 117), (1, .int a1), (2, .int a2), (3, .int a3), (4, .int a4), (5, .int a5)]) (st2 := [.int 2, .int 8, .int a4, .int 13, .ref 118]) jF_212_100 rfl rfl) ?_
    refine Eq.trans (jr_s (pc2 := 102) (lv2 := [(7, .int a4), (6, .int 13), (0, .ref 117), (1, .int a1), (2, .int a2), (3, .int a3), (4, .int a4), (5, .int a5)]) (st2 := [.int 16, .int a4, .int 13, .ref 118]) jF_212_101 rfl rfl) ?_
    refine Eq.trans (jr_s (pc2 := 103) (lv2 := [(7, .int a4), (6, .int 13), (0, .ref 117), (1, .int a1), (2, .int a2), (3, .int a3), (4, .int a4), (5, .int a5)]) (st2 := [.int (a4 >>> ((16 : Int32) &&& 31)), .int 13, .ref 118]) jF_212_102 rfl rfl) ?_
    refine Eq.trans (jr_s (pc2 := 106) (lv2 := [(7, .int a4), (6, .int 13), (0, .ref 117), (1, .int a1), (2, .int a2), (3, .int a3), (4, .int a4), (5, .int a5)]) (st2 := [.int 255, .int (a4 >>> ((16 : Int32) &&& 31)), .int 13, .ref 118]) jF_212_103 rfl rfl) ?_
    refine Eq.trans (jr_s (pc2 := 107) (lv2 := [(7, .int a4), (6, .int 13), (0, .ref 117), (1, .int a1), (2, .int a2), (3, .int a3), (4, .int a4), (5, .int a5)]) (st2 := [.int ((a4 >>> ((16 : Int32) &&& 31)) &&& 255), .int 13, .ref 118]) jF_212_106 rfl rfl) ?_
    refine Eq.trans (jr_sti (q := 13) jF_212_107 (j_aok_arl (FD.r2 (fq_66 a1 a2 a3 a4 a5)) (by decide)) (by decide +kernel)) ?_
    refine Eq.trans (jr_s (pc2 := 109) (lv2 := [(7, .int a4), (6, .int 13), (0, .ref 117), (1, .int a1), (2, .int a2), (3, .int a3), (4, .int a4), (5, .int a5)]) (st2 := [.ref 117]) jF_212_108 rfl rfl) ?_
    refine Eq.trans (jr_s (pc2 := 110) (lv2 := [(7, .int a4), (6, .int 13), (0, .ref 117), (1, .int a1), (2, .int a2), (3, .int a3), (4, .int a4), (5, .int a5)]) (st2 := [.ref 117, .ref 117]) jF_212_109 rfl rfl) ?_
    refine Eq.trans (jr_gf (v := .int 13) jF_212_110 (FD.g5 (fq_67 a1 a2 a3 a4 a5))) ?_
    refine Eq.trans (jr_s (pc2 := 114) (lv2 := [(7, .int a4), (6, .int 13), (0, .ref 117), (1, .int a1), (2, .int a2), (3, .int a3), (4, .int a4), (5, .int a5)]) (st2 := [.int 1, .int 13, .ref 117]) jF_212_113 rfl rfl) ?_
    refine Eq.trans (jr_s (pc2 := 115) (lv2 := [(7, .int a4), (6, .int 13), (0, .ref 117), (1, .int a1), (2, .int a2), (3, .int a3), (4, .int a4), (5, .int a5)]) (st2 := [.int 14, .ref 117]) jF_212_114 rfl rfl) ?_
    refine Eq.trans (jr_pf jF_212_115 (FD.o2 (fq_67 a1 a2 a3 a4 a5)) rfl) ?_
    refine Eq.trans (jr_s (pc2 := 121) (lv2 := [(6, .int 14), (7, .int a4), (0, .ref 117), (1, .int a1), (2, .int a2), (3, .int a3), (4, .int a4), (5, .int a5)]) (st2 := []) jF_212_118 rfl rfl) ?_
    refine Eq.trans (jr_s (pc2 := 28) (lv2 := [(6, .int 14), (7, .int a4), (0, .ref 117), (1, .int a1), (2, .int a2), (3, .int a3), (4, .int a4), (5, .int a5)]) (st2 := []) jF_212_121 rfl rfl) ?_
    refine Eq.trans (jr_s (pc2 := 30) (lv2 := [(6, .int 14), (7, .int a4), (0, .ref 117), (1, .int a1), (2, .int a2), (3, .int a3), (4, .int a4), (5, .int a5)]) (st2 := [.int 14]) jF_212_28 rfl rfl) ?_
    refine Eq.trans (jr_s (pc2 := 32) (lv2 := [(6, .int 14), (7, .int a4), (0, .ref 117), (1, .int a1), (2, .int a2), (3, .int a3), (4, .int a4), (5, .int a5)]) (st2 := [.int 20, .int 14]) jF_212_30 rfl rfl) ?_
    refine Eq.trans (jr_ic0 jF_212_32 (by decide +kernel)) ?_
    refine Eq.trans (jr_s (pc2 := 37) (lv2 := [(6, .int 14), (7, .int a4), (0, .ref 117), (1, .int a1), (2, .int a2), (3, .int a3), (4, .int a4), (5, .int a5)]) (st2 := [.int 14]) jF_212_35 rfl rfl) ?_
    refine Eq.trans (jr_s (pc2 := 38) (lv2 := [(6, .int 14), (7, .int a4), (0, .ref 117), (1, .int a1), (2, .int a2), (3, .int a3), (4, .int a4), (5, .int a5)]) (st2 := [.int 4, .int 14]) jF_212_37 rfl rfl) ?_
    refine Eq.trans (jr_ic1 jF_212_38 (by decide +kernel)) ?_
    refine Eq.trans (jr_s (pc2 := 47) (lv2 := [(6, .int 14), (7, .int a4), (0, .ref 117), (1, .int a1), (2, .int a2), (3, .int a3), (4, .int a4), (5, .int a5)]) (st2 := [.int 14]) jF_212_45 rfl rfl) ?_
    refine Eq.trans (jr_s (pc2 := 49) (lv2 := [(6, .int 14), (7, .int a4), (0, .ref 117), (1, .int a1), (2, .int a2), (3, .int a3), (4, .int a4), (5, .int a5)]) (st2 := [.int 8, .int 14]) jF_212_47 rfl rfl) ?_
    refine Eq.trans (jr_ic1 jF_212_49 (by decide +kernel)) ?_
    refine Eq.trans (jr_s (pc2 := 58) (lv2 := [(6, .int 14), (7, .int a4), (0, .ref 117), (1, .int a1), (2, .int a2), (3, .int a3), (4, .int a4), (5, .int a5)]) (st2 := [.int 14]) jF_212_56 rfl rfl) ?_
    refine Eq.trans (jr_s (pc2 := 60) (lv2 := [(6, .int 14), (7, .int a4), (0, .ref 117), (1, .int a1), (2, .int a2), (3, .int a3), (4, .int a4), (5, .int a5)]) (st2 := [.int 12, .int 14]) jF_212_58 rfl rfl) ?_
    refine Eq.trans (jr_ic1 jF_212_60 (by decide +kernel)) ?_
    refine Eq.trans (jr_s (pc2 := 69) (lv2 := [(6, .int 14), (7, .int a4), (0, .ref 117), (1, .int a1), (2, .int a2), (3, .int a3), (4, .int a4), (5, .int a5)]) (st2 := [.int 14]) jF_212_67 rfl rfl) ?_
    refine Eq.trans (jr_s (pc2 := 71) (lv2 := [(6, .int 14), (7, .int a4), (0, .ref 117), (1, .int a1), (2, .int a2), (3, .int a3), (4, .int a4), (5, .int a5)]) (st2 := [.int 16, .int 14]) jF_212_69 rfl rfl) ?_
    refine Eq.trans (jr_ic0 jF_212_71 (by decide +kernel)) ?_
    refine Eq.trans (jr_s (pc2 := 76) (lv2 := [(6, .int 14), (7, .int a4), (0, .ref 117), (1, .int a1), (2, .int a2), (3, .int a3), (4, .int a4), (5, .int a5)]) (st2 := [.int a4]) jF_212_74 rfl rfl) ?_
    refine Eq.trans (jr_s (pc2 := 81) (lv2 := [(6, .int 14), (7, .int a4), (0, .ref 117), (1, .int a1), (2, .int a2), (3, .int a3), (4, .int a4), (5, .int a5)]) (st2 := [.int a4]) jF_212_76 rfl rfl) ?_
    refine Eq.trans (jr_s (pc2 := 83) (lv2 := [(7, .int a4), (6, .int 14), (0, .ref 117), (1, .int a1), (2, .int a2), (3, .int a3), (4, .int a4), (5, .int a5)]) (st2 := []) jF_212_81 rfl rfl) ?_
    refine Eq.trans (jr_s (pc2 := 84) (lv2 := [(7, .int a4), (6, .int 14), (0, .ref 117), (1, .int a1), (2, .int a2), (3, .int a3), (4, .int a4), (5, .int a5)]) (st2 := [.ref 117]) jF_212_83 rfl rfl) ?_
    refine Eq.trans (jr_gf (v := .ref 118) jF_212_84 (FD.g4 (fq_68 a1 a2 a3 a4 a5))) ?_
    refine Eq.trans (jr_s (pc2 := 88) (lv2 := [(7, .int a4), (6, .int 14), (0, .ref 117), (1, .int a1), (2, .int a2), (3, .int a3), (4, .int a4), (5, .int a5)]) (st2 := [.ref 117, .ref 118]) jF_212_87 rfl rfl) ?_
    refine Eq.trans (jr_gf (v := .int 14) jF_212_88 (FD.g5 (fq_68 a1 a2 a3 a4 a5))) ?_
    refine Eq.trans (jr_s (pc2 := 93) (lv2 := [(7, .int a4), (6, .int 14), (0, .ref 117), (1, .int a1), (2, .int a2), (3, .int a3), (4, .int a4), (5, .int a5)]) (st2 := [.int a4, .int 14, .ref 118]) jF_212_91 rfl rfl) ?_
    refine Eq.trans (jr_s (pc2 := 95) (lv2 := [(7, .int a4), (6, .int 14), (0, .ref 117), (1, .int a1), (2, .int a2), (3, .int a3), (4, .int a4), (5, .int a5)]) (st2 := [.int 8, .int a4, .int 14, .ref 118]) jF_212_93 rfl rfl) ?_
    refine Eq.trans (jr_s (pc2 := 96) (lv2 := [(7, .int a4), (6, .int 14), (0, .ref 117), (1, .int a1), (2, .int a2), (3, .int a3), (4, .int a4), (5, .int a5)]) (st2 := [.int 3, .int 8, .int a4, .int 14, .ref 118]) jF_212_95 rfl rfl) ?_
    refine Eq.trans (jr_s (pc2 := 98) (lv2 := [(7, .int a4), (6, .int 14), (0, .ref 117), (1, .int a1), (2, .int a2), (3, .int a3), (4, .int a4), (5, .int a5)]) (st2 := [.int 14, .int 3, .int 8, .int a4, .int 14, .ref 118]) jF_212_96 rfl rfl) ?_
    refine Eq.trans (jr_s (pc2 := 99) (lv2 := [(7, .int a4), (6, .int 14), (0, .ref 117), (1, .int a1), (2, .int a2), (3, .int a3), (4, .int a4), (5, .int a5)]) (st2 := [.int 4, .int 14, .int 3, .int 8, .int a4, .int 14, .ref 118]) jF_212_98 rfl rfl) ?_
    refine Eq.trans (jr_s (pc2 := 100) (lv2 := [(7, .int a4), (6, .int 14), (0, .ref 117), (1, .int a1), (2, .int a2), (3, .int a3), (4, .int a4), (5, .int a5)]) (st2 := [.int 2, .int 3, .int 8, .int a4, .int 14, .ref 118]) jF_212_99 rfl rfl) ?_
    refine Eq.trans (jr_s (pc2 := 101) (lv2 := [(7, .int a4), (6, .int 14), (0, .ref 117), (1, .int a1), (2, .int a2), (3, .int a3), (4, .int a4), (5, .int a5)]) (st2 := [.int 1, .int 8, .int a4, .int 14, .ref 118]) jF_212_100 rfl rfl) ?_
    refine Eq.trans (jr_s (pc2 := 102) (lv2 := [(7, .int a4), (6, .int 14), (0, .ref 117), (1, .int a1), (2, .int a2), (3, .int a3), (4, .int a4), (5, .int a5)]) (st2 := [.int 8, .int a4, .int 14, .ref 118]) jF_212_101 rfl rfl) ?_
    refine Eq.trans (jr_s (pc2 := 103) (lv2 := [(7, .int a4), (6, .int 14), (0, .ref 117), (1, .int a1), (2, .int a2), (3, .int a3), (4, .int a4), (5, .int a5)]) (st2 := [.int (a4 >>> ((8 : Int32) &&& 31)), .int 14, .ref 118]) jF_212_102 rfl rfl) ?_
    refine Eq.trans (jr_s (pc2 := 106) (lv2 := [(7, .int a4), (6, .int 14), (0, .ref 117), (1, .int a1), (2, .int a2), (3, .int a3), (4, .int a4), (5, .int a5)]) (st2 := [.int 255, .int (a4 >>> ((8 : Int32) &&& 31)), .int 14, .ref 118]) jF_212_103 rfl rfl) ?_
    refine Eq.trans (jr_s (pc2 := 107) (lv2 := [(7, .int a4), (6, .int 14), (0, .ref 117), (1, .int a1), (2, .int a2), (3, .int a3), (4, .int a4), (5, .int a5)]) (st2 := [.int ((a4 >>> ((8 : Int32) &&& 31)) &&& 255), .int 14, .ref 118]) jF_212_106 rfl rfl) ?_
    refine Eq.trans (jr_sti (q := 14) jF_212_107 (j_aok_arl (FD.r2 (fq_68 a1 a2 a3 a4 a5)) (by decide)) (by decide +kernel)) ?_
    refine Eq.trans (jr_s (pc2 := 109) (lv2 := [(7, .int a4), (6, .int 14), (0, .ref 117), (1, .int a1), (2, .int a2), (3, .int a3), (4, .int a4), (5, .int a5)]) (st2 := [.ref 117]) jF_212_108 rfl rfl) ?_
    refine Eq.trans (jr_s (pc2 := 110) (lv2 := [(7, .int a4), (6, .int 14), (0, .ref 117), (1, .int a1), (2, .int a2), (3, .int a3), (4, .int a4), (5, .int a5)]) (st2 := [.ref 117, .ref 117]) jF_212_109 rfl rfl) ?_
    refine Eq.trans (jr_gf (v := .int 14) jF_212_110 (FD.g5 (fq_69 a1 a2 a3 a4 a5))) ?_
    refine Eq.trans (jr_s (pc2 := 114) (lv2 := [(7, .int a4), (6, .int 14), (0, .ref 117), (1, .int a1), (2, .int a2), (3, .int a3), (4, .int a4), (5, .int a5)]) (st2 := [.int 1, .int 14, .ref 117]) jF_212_113 rfl rfl) ?_
    refine Eq.trans (jr_s (pc2 := 115) (lv2 := [(7, .int a4), (6, .int 14), (0, .ref 117), (1, .int a1), (2, .int a2), (3, .int a3), (4, .int a4), (5, .int a5)]) (st2 := [.int 15, .ref 117]) jF_212_114 rfl rfl) ?_
    refine Eq.trans (jr_pf jF_212_115 (FD.o2 (fq_69 a1 a2 a3 a4 a5)) rfl) ?_
    refine Eq.trans (jr_s (pc2 := 121) (lv2 := [(6, .int 15), (7, .int a4), (0, .ref 117), (1, .int a1), (2, .int a2), (3, .int a3), (4, .int a4), (5, .int a5)]) (st2 := []) jF_212_118 rfl rfl) ?_
    refine Eq.trans (jr_s (pc2 := 28) (lv2 := [(6, .int 15), (7, .int a4), (0, .ref 117), (1, .int a1), (2, .int a2), (3, .int a3), (4, .int a4), (5, .int a5)]) (st2 := []) jF_212_121 rfl rfl) ?_
    refine Eq.trans (jr_s (pc2 := 30) (lv2 := [(6, .int 15), (7, .int a4), (0, .ref 117), (1, .int a1), (2, .int a2), (3, .int a3), (4, .int a4), (5, .int a5)]) (st2 := [.int 15]) jF_212_28 rfl rfl) ?_
    refine Eq.trans (jr_s (pc2 := 32) (lv2 := [(6, .int 15), (7, .int a4), (0, .ref 117), (1, .int a1), (2, .int a2), (3, .int a3), (4, .int a4), (5, .int a5)]) (st2 := [.int 20, .int 15]) jF_212_30 rfl rfl) ?_
    refine Eq.trans (jr_ic0 jF_212_32 (by decide +kernel)) ?_
    refine Eq.trans (jr_s (pc2 := 37) (lv2 := [(6, .int 15), (7, .int a4), (0, .ref 117), (1, .int a1), (2, .int a2), (3, .int a3), (4, .int a4), (5, .int a5)]) (st2 := [.int 15]) jF_212_35 rfl rfl) ?_
    refine Eq.trans (jr_s (pc2 := 38) (lv2 := [(6, .int 15), (7, .int a4), (0, .ref 117), (1, .int a1), (2, .int a2), (3, .int a3), (4, .int a4), (5, .int a5)]) (st2 := [.int 4, .int 15]) jF_212_37 rfl rfl) ?_
    refine Eq.trans (jr_ic1 jF_212_38 (by decide +kernel)) ?_
    refine Eq.trans (jr_s (pc2 := 47) (lv2 := [(6, .int 15), (7, .int a4), (0, .ref 117), (1, .int a1), (2, .int a2), (3, .int a3), (4, .int a4), (5, .int a5)]) (st2 := [.int 15]) jF_212_45 rfl rfl) ?_
    refine Eq.trans (jr_s (pc2 := 49) (lv2 := [(6, .int 15), (7, .int a4), (0, .ref 117), (1, .int a1), (2, .int a2), (3, .int a3), (4, .int a4), (5, .int a5)]) (st2 := [.int 8, .int 15]) jF_212_47 rfl rfl) ?_
    refine Eq.trans (jr_ic1 jF_212_49 (by decide +kernel)) ?_
    refine Eq.trans (jr_s (pc2 := 58) (lv2 := [(6, .int 15), (7, .int a4), (0, .ref 117), (1, .int a1), (2, .int a2), (3, .int a3), (4, .int a4), (5, .int a5)]) (st2 := [.int 15]) jF_212_56 rfl rfl) ?_
    refine Eq.trans (jr_s (pc2 := 60) (lv2 := [(6, .int 15), (7, .int a4), (0, .ref 117), (1, .int a1), (2, .int a2), (3, .int a3), (4, .int a4), (5, .int a5)]) (st2 := [.int 12, .int 15]) jF_212_58 rfl rfl) ?_
    refine Eq.trans (jr_ic1 jF_212_60 (by decide +kernel)) ?_
    refine Eq.trans (jr_s (pc2 := 69) (lv2 := [(6, .int 15), (7, .int a4), (0, .ref 117), (1, .int a1), (2, .int a2), (3, .int a3), (4, .int a4), (5, .int a5)]) (st2 := [.int 15]) jF_212_67 rfl rfl) ?_
    refine Eq.trans (jr_s (pc2 := 71) (lv2 := [(6, .int 15), (7, .int a4), (0, .ref 117), (1, .int a1), (2, .int a2), (3, .int a3), (4, .int a4), (5, .int a5)]) (st2 := [.int 16, .int 15]) jF_212_69 rfl rfl) ?_
    refine Eq.trans (jr_ic0 jF_212_71 (by decide +kernel)) ?_
    refine Eq.trans (jr_s (pc2 := 76) (lv2 := [(6, .int 15), (7, .int a4), (0, .ref 117), (1, .int a1), (2, .int a2), (3, .int a3), (4, .int a4), (5, .int a5)]) (st2 := [.int a4]) jF_212_74 rfl rfl) ?_
    refine Eq.trans (jr_s (pc2 := 81) (lv2 := [(6, .int 15), (7, .int a4), (0, .ref 117), (1, .int a1), (2, .int a2), (3, .int a3), (4, .int a4), (5, .int a5)]) (st2 := [.int a4]) jF_212_76 rfl rfl) ?_
    refine Eq.trans (jr_s (pc2 := 83) (lv2 := [(7, .int a4), (6, .int 15), (0, .ref 117), (1, .int a1), (2, .int a2), (3, .int a3), (4, .int a4), (5, .int a5)]) (st2 := []) jF_212_81 rfl rfl) ?_
    refine Eq.trans (jr_s (pc2 := 84) (lv2 := [(7, .int a4), (6, .int 15), (0, .ref 117), (1, .int a1), (2, .int a2), (3, .int a3), (4, .int a4), (5, .int a5)]) (st2 := [.ref 117]) jF_212_83 rfl rfl) ?_
    refine Eq.trans (jr_gf (v := .ref 118) jF_212_84 (FD.g4 (fq_70 a1 a2 a3 a4 a5))) ?_
    refine Eq.trans (jr_s (pc2 := 88) (lv2 := [(7, .int a4), (6, .int 15), (0, .ref 117), (1, .int a1), (2, .int a2), (3, .int a3), (4, .int a4), (5, .int a5)]) (st2 := [.ref 117, .ref 118]) jF_212_87 rfl rfl) ?_
    refine Eq.trans (jr_gf (v := .int 15) jF_212_88 (FD.g5 (fq_70 a1 a2 a3 a4 a5))) ?_
    refine Eq.trans (jr_s (pc2 := 93) (lv2 := [(7, .int a4), (6, .int 15), (0, .ref 117), (1, .int a1), (2, .int a2), (3, .int a3), (4, .int a4), (5, .int a5)]) (st2 := [.int a4, .int 15, .ref 118]) jF_212_91 rfl rfl) ?_
    refine Eq.trans (jr_s (pc2 := 95) (lv2 := [(7, .int a4), (6, .int 15), (0, .ref 117), (1, .int a1), (2, .int a2), (3, .int a3), (4, .int a4), (5, .int a5)]) (st2 := [.int 8, .int a4, .int 15, .ref 118]) jF_212_93 rfl rfl) ?_
    refine Eq.trans (jr_s (pc2 := 96) (lv2 := [(7, .int a4), (6, .int 15), (0, .ref 117), (1, .int a1), (2, .int a2), (3, .int a3), (4, .int a4), (5, .int a5)]) (st2 := [.int 3, .int 8, .int a4, .int 15, .ref 118]) jF_212_95 rfl rfl) ?_
    refine Eq.trans (jr_s (pc2 := 98) (lv2 := [(7, .int a4), (6, .int 15), (0, .ref 117), (1, .int a1), (2, .int a2), (3, .int a3), (4, .int a4), (5, .int a5)]) (st2 := [.int 15, .int 3, .int 8, .int a4, .int 15, .ref 118]) jF_212_96 rfl rfl) ?_
    refine Eq.trans (jr_s (pc2 := 99) (lv2 := [(7, .int a4), (6, .int 15), (0, .ref 117), (1, .int a1), (2, .int a2), (3, .int a3), (4, .int a4), (5, .int a5)]) (st2 := [.int 4, .int 15, .int 3, .int 8, .int a4, .int 15, .ref 118]) jF_212_98 rfl rfl) ?_
    refine Eq.trans (jr_s (pc2 := 100) (lv2 := [(7, .int a4), (6, .int 15), (0, .ref 117), (1, .int a1), (2, .int a2), (3, .int a3), (4, .int a4), (5, .int a5)]) (st2 := [.int 3, .int 3, .int 8, .int a4, .int 15, .ref 118]) jF_212_99 rfl rfl) ?_
    refine Eq.trans (jr_s (pc2 := 101) (lv2 := [(7, .int a4), (6, .int 15), (0, .ref 117), (1, .int a1), (2, .int a2), (3, .int a3), (4, .int a4), (5, .int a5)]) (st2 := [.int 0, .int 8, .int a4, .int 15, .ref 118]) jF_212_100 rfl rfl) ?_
    refine Eq.trans (jr_s (pc2 := 102) (lv2 := [(7, .int a4), (6, .int 15), (0, .ref 117), (1, .int a1), (2, .int a2), (3, .int a3), (4, .int a4), (5, .int a5)]) (st2 := [.int 0, .int a4, .int 15, .ref 118]) jF_212_101 rfl rfl) ?_
    refine Eq.trans (jr_s (pc2 := 103) (lv2 := [(7, .int a4), (6, .int 15), (0, .ref 117), (1, .int a1), (2, .int a2), (3, .int a3), (4, .int a4), (5, .int a5)]) (st2 := [.int (a4 >>> ((0 : Int32) &&& 31)), .int 15, .ref 118]) jF_212_102 rfl rfl) ?_
    refine Eq.trans (jr_s (pc2 := 106) (lv2 := [(7, .int a4), (6, .int 15), (0, .ref 117), (1, .int a1), (2, .int a2), (3, .int a3), (4, .int a4), (5, .int a5)]) (st2 := [.int 255, .int (a4 >>> ((0 : Int32) &&& 31)), .int 15, .ref 118]) jF_212_103 rfl rfl) ?_
    refine Eq.trans (jr_s (pc2 := 107) (lv2 := [(7, .int a4), (6, .int 15), (0, .ref 117), (1, .int a1), (2, .int a2), (3, .int a3), (4, .int a4), (5, .int a5)]) (st2 := [.int ((a4 >>> ((0 : Int32) &&& 31)) &&& 255), .int 15, .ref 118]) jF_212_106 rfl rfl) ?_
    refine Eq.trans (jr_sti (q := 15) jF_212_107 (j_aok_arl (FD.r2 (fq_70 a1 a2 a3 a4 a5)) (by decide)) (by decide +kernel)) ?_
    refine Eq.trans (jr_s (pc2 := 109) (lv2 := [(7, .int a4), (6, .int 15), (0, .ref 117), (1, .int a1), (2, .int a2), (3, .int a3), (4, .int a4), (5, .int a5)]) (st2 := [.ref 117]) jF_212_108 rfl rfl) ?_
    refine Eq.trans (jr_s (pc2 := 110) (lv2 := [(7, .int a4), (6, .int 15), (0, .ref 117), (1, .int a1), (2, .int a2), (3, .int a3), (4, .int a4), (5, .int a5)]) (st2 := [.ref 117, .ref 117]) jF_212_109 rfl rfl) ?_
    refine Eq.trans (jr_gf (v := .int 15) jF_212_110 (FD.g5 (fq_71 a1 a2 a3 a4 a5))) ?_
    refine Eq.trans (jr_s (pc2 := 114) (lv2 := [(7, .int a4), (6, .int 15), (0, .ref 117), (1, .int a1), (2, .int a2), (3, .int a3), (4, .int a4), (5, .int a5)]) (st2 := [.int 1, .int 15, .ref 117]) jF_212_113 rfl rfl) ?_
    refine Eq.trans (jr_s (pc2 := 115) (lv2 := [(7, .int a4), (6, .int 15), (0, .ref 117), (1, .int a1), (2, .int a2), (3, .int a3), (4, .int a4), (5, .int a5)]) (st2 := [.int 16, .ref 117]) jF_212_114 rfl rfl) ?_
    refine Eq.trans (jr_pf jF_212_115 (FD.o2 (fq_71 a1 a2 a3 a4 a5)) rfl) ?_
    refine Eq.trans (jr_s (pc2 := 121) (lv2 := [(6, .int 16), (7, .int a4), (0, .ref 117), (1, .int a1), (2, .int a2), (3, .int a3), (4, .int a4), (5, .int a5)]) (st2 := []) jF_212_118 rfl rfl) ?_
    refine Eq.trans (jr_s (pc2 := 28) (lv2 := [(6, .int 16), (7, .int a4), (0, .ref 117), (1, .int a1), (2, .int a2), (3, .int a3), (4, .int a4), (5, .int a5)]) (st2 := []) jF_212_121 rfl rfl) ?_
    refine Eq.trans (jr_s (pc2 := 30) (lv2 := [(6, .int 16), (7, .int a4), (0, .ref 117), (1, .int a1), (2, .int a2), (3, .int a3), (4, .int a4), (5, .int a5)]) (st2 := [.int 16]) jF_212_28 rfl rfl) ?_
    refine Eq.trans (jr_s (pc2 := 32) (lv2 := [(6, .int 16), (7, .int a4), (0, .ref 117), (1, .int a1), (2, .int a2), (3, .int a3), (4, .int a4), (5, .int a5)]) (st2 := [.int 20, .int 16]) jF_212_30 rfl rfl) ?_
    refine Eq.trans (jr_ic0 jF_212_32 (by decide +kernel)) ?_
    refine Eq.trans (jr_s (pc2 := 37) (lv2 := [(6, .int 16), (7, .int a4), (0, .ref 117), (1, .int a1), (2, .int a2), (3, .int a3), (4, .int a4), (5, .int a5)]) (st2 := [.int 16]) jF_212_35 rfl rfl) ?_
    refine Eq.trans (jr_s (pc2 := 38) (lv2 := [(6, .int 16), (7, .int a4), (0, .ref 117), (1, .int a1), (2, .int a2), (3, .int a3), (4, .int a4), (5, .int a5)]) (st2 := [.int 4, .int 16]) jF_212_37 rfl rfl) ?_
    refine Eq.trans (jr_ic1 jF_212_38 (by decide +kernel)) ?_
    refine Eq.trans (jr_s (pc2 := 47) (lv2 := [(6, .int 16), (7, .int a4), (0, .ref 117), (1, .int a1), (2, .int a2), (3, .int a3), (4, .int a4), (5, .int a5)]) (st2 := [.int 16]) jF_212_45 rfl rfl) ?_
    refine Eq.trans (jr_s (pc2 := 49) (lv2 := [(6, .int 16), (7, .int a4), (0, .ref 117), (1, .int a1), (2, .int a2), (3, .int a3), (4, .int a4), (5, .int a5)]) (st2 := [.int 8, .int 16]) jF_212_47 rfl rfl) ?_
    refine Eq.trans (jr_ic1 jF_212_49 (by decide +kernel)) ?_
    refine Eq.trans (jr_s (pc2 := 58) (lv2 := [(6, .int 16), (7, .int a4), (0, .ref 117), (1, .int a1), (2, .int a2), (3, .int a3), (4, .int a4), (5, .int a5)]) (st2 := [.int 16]) jF_212_56 rfl rfl) ?_
    refine Eq.trans (jr_s (pc2 := 60) (lv2 := [(6, .int 16), (7, .int a4), (0, .ref 117), (1, .int a1), (2, .int a2), (3, .int a3), (4, .int a4), (5, .int a5)]) (st2 := [.int 12, .int 16]) jF_212_58 rfl rfl) ?_
    refine Eq.trans (jr_ic1 jF_212_60 (by decide +kernel)) ?_
    refine Eq.trans (jr_s (pc2 := 69) (lv2 := [(6, .int 16), (7, .int a4), (0, .ref 117), (1, .int a1), (2, .int a2), (3, .int a3), (4, .int a4), (5, .int a5)]) (st2 := [.int 16]) jF_212_67 rfl rfl) ?_
    refine Eq.trans (jr_s (pc2 := 71) (lv2 := [(6, .int 16), (7, .int a4), (0, .ref 117), (1, .int a1), (2, .int a2), (3, .int a3), (4, .int a4), (5, .int a5)]) (st2 := [.int 16, .int 16]) jF_212_69 rfl rfl) ?_
    refine Eq.trans (jr_ic1 jF_212_71 (by decide +kernel)) ?_
    refine Eq.trans (jr_s (pc2 := 81) (lv2 := [(6, .int 16), (7, .int a4), (0, .ref 117), (1, .int a1), (2, .int a2), (3, .int a3), (4, .int a4), (5, .int a5)]) (st2 := [.int a5]) jF_212_79 rfl rfl) ?_
    refine Eq.trans (jr_s (pc2 := 83) (lv2 := [(7, .int a5), (6, .int 16), (0, .ref 117), (1, .int a1), (2, .int a2), (3, .int a3), (4, .int a4), (5, .int a5)]) (st2 := []) jF_212_81 rfl rfl) ?_
    refine Eq.trans (jr_s (pc2 := 84) (lv2 := [(7, .int a5), (6, .int 16), (0, .ref 117), (1, .int a1), (2, .int a2), (3, .int a3), (4, .int a4), (5, .int a5)]) (st2 := [.ref 117]) jF_212_83 rfl rfl) ?_
    refine Eq.trans (jr_gf (v := .ref 118) jF_212_84 (FD.g4 (fq_72 a1 a2 a3 a4 a5))) ?_
    refine Eq.trans (jr_s (pc2 := 88) (lv2 := [(7, .int a5), (6, .int 16), (0, .ref 117), (1, .int a1), (2, .int a2), (3, .int a3), (4, .int a4), (5, .int a5)]) (st2 := [.ref 117, .ref 118]) jF_212_87 rfl rfl) ?_
    refine Eq.trans (jr_gf (v := .int 16) jF_212_88 (FD.g5 (fq_72 a1 a2 a3 a4 a5))) ?_
    refine Eq.trans (jr_s (pc2 := 93) (lv2 := [(7, .int a5), (6, .int 16), (0, .ref 117), (1, .int a1), (2, .int a2), (3, .int a3), (4, .int a4), (5, .int a5)]) (st2 := [.int a5, .int 16, .ref 118]) jF_212_91 rfl rfl) ?_
    refine Eq.trans (jr_s (pc2 := 95) (lv2 := [(7, .int a5), (6, .int 16), (0, .ref 117), (1, .int a1), (2, .int a2), (3, .int a3), (4, .int a4), (5, .int a5)]) (st2 := [.int 8, .int a5, .int 16, .ref 118]) jF_212_93 rfl rfl) ?_
    refine Eq.trans (jr_s (pc2 := 96) (lv2 := [(7, .int a5), (6, .int 16), (0, .ref 117), (1, .int a1), (2, .int a2), (3, .int a3), (4, .int a4), (5, .int a5)]) (st2 := [.int 3, .int 8, .int a5, .int 16, .ref 118]) jF_212_95 rfl rfl) ?_
    refine Eq.trans (jr_s (pc2 := 98) (lv2 := [(7, .int a5), (6, .int 16), (0, .ref 117), (1, .int a1), (2, .int a2), (3, .int a3), (4, .int a4), (5, .int a5)]) (st2 := [.int 16, .int 3, .int 8, .int a5, .int 16, .ref 118]) jF_212_96 rfl rfl) ?_
    refine Eq.trans (jr_s (pc2 := 99) (lv2 := [(7, .int a5), (6, .int 16), (0, .ref 117), (1, .int a1), (2, .int a2), (3, .int a3), (4, .int a4), (5, .int a5)]) (st2 := [.int 4, .int 16, .int 3, .int 8, .int a5, .int 16, .ref 118]) jF_212_98 rfl rfl) ?_
    refine Eq.trans (jr_s (pc2 := 100) (lv2 := [(7, .int a5), (6, .int 16), (0, .ref 117), (1, .int a1), (2, .int a2), (3, .int a3), (4, .int a4), (5, .int a5)]) (st2 := [.int 0, .int 3, .int 8, .int a5, .int 16, .ref 118]) jF_212_99 rfl rfl) ?_
    refine Eq.trans (jr_s (pc2 := 101) (lv2 := [(7, .int a5), (6, .int 16), (0, .ref 117), (1, .int a1), (2, .int a2), (3, .int a3), (4, .int a4), (5, .int a5)]) (st2 := [.int 3, .int 8, .int a5, .int 16, .ref 118]) jF_212_100 rfl rfl) ?_
    refine Eq.trans (jr_s (pc2 := 102) (lv2 := [(7, .int a5), (6, .int 16), (0, .ref 117), (1, .int a1), (2, .int a2), (3, .int a3), (4, .int a4), (5, .int a5)]) (st2 := [.int 24, .int a5, .int 16, .ref 118]) jF_212_101 rfl rfl) ?_
    refine Eq.trans (jr_s (pc2 := 103) (lv2 := [(7, .int a5), (6, .int 16), (0, .ref 117), (1, .int a1), (2, .int a2), (3, .int a3), (4, .int a4), (5, .int a5)]) (st2 := [.int (a5 >>> ((24 : Int32) &&& 31)), .int 16, .ref 118]) jF_212_102 rfl rfl) ?_
    refine Eq.trans (jr_s (pc2 := 106) (lv2 := [(7, .int a5), (6, .int 16), (0, .ref 117), (1, .int a1), (2, .int a2), (3, .int a3), (4, .int a4), (5, .int a5)]) (st2 := [.int 255, .int (a5 >>> ((24 : Int32) &&& 31)), .int 16, .ref 118]) jF_212_103 rfl rfl) ?_
    refine Eq.trans (jr_s (pc2 := 107) (lv2 := [(7, .int a5), (6, .int 16), (0, .ref 117), (1, .int a1), (2, .int a2), (3, .int a3), (4, .int a4), (5, .int a5)]) (st2 := [.int ((a5 >>> ((24 : Int32) &&& 31)) &&& 255), .int 16, .ref 118]) jF_212_106 rfl rfl) ?_
    refine Eq.trans (jr_sti (q := 16) jF_212_107 (j_aok_arl (FD.r2 (fq_72 a1 a2 a3 a4 a5)) (by decide)) (by decide +kernel)) ?_
    refine Eq.trans (jr_s (pc2 := 109) (lv2 := [(7, .int a5), (6, .int 16), (0, .ref 117), (1, .int a1), (2, .int a2), (3, .int a3), (4, .int a4), (5, .int a5)]) (st2 := [.ref 117]) jF_212_108 rfl rfl) ?_
    refine Eq.trans (jr_s (pc2 := 110) (lv2 := [(7, .int a5), (6, .int 16), (0, .ref 117), (1, .int a1), (2, .int a2), (3, .int a3), (4, .int a4), (5, .int a5)]) (st2 := [.ref 117, .ref 117]) jF_212_109 rfl rfl) ?_
    refine Eq.trans (jr_gf (v := .int 16) jF_212_110 (FD.g5 (fq_73 a1 a2 a3 a4 a5))) ?_
    refine Eq.trans (jr_s (pc2 := 114) (lv2 := [(7, .int a5), (6, .int 16), (0, .ref 117), (1, .int a1), (2, .int a2), (3, .int a3), (4, .int a4), (5, .int a5)]) (st2 := [.int 1, .int 16, .ref 117]) jF_212_113 rfl rfl) ?_
    refine Eq.trans (jr_s (pc2 := 115) (lv2 := [(7, .int a5), (6, .int 16), (0, .ref 117), (1, .int a1), (2, .int a2), (3, .int a3), (4, .int a4), (5, .int a5)]) (st2 := [.int 17, .ref 117]) jF_212_114 rfl rfl) ?_
    refine Eq.trans (jr_pf jF_212_115 (FD.o2 (fq_73 a1 a2 a3 a4 a5)) rfl) ?_
    refine Eq.trans (jr_s (pc2 := 121) (lv2 := [(6, .int 17), (7, .int a5), (0, .ref 117), (1, .int a1), (2, .int a2), (3, .int a3), (4, .int a4), (5, .int a5)]) (st2 := []) jF_212_118 rfl rfl) ?_
    refine Eq.trans (jr_s (pc2 := 28) (lv2 := [(6, .int 17), (7, .int a5), (0, .ref 117), (1, .int a1), (2, .int a2), (3, .int a3), (4, .int a4), (5, .int a5)]) (st2 := []) jF_212_121 rfl rfl) ?_
    refine Eq.trans (jr_s (pc2 := 30) (lv2 := [(6, .int 17), (7, .int a5), (0, .ref 117), (1, .int a1), (2, .int a2), (3, .int a3), (4, .int a4), (5, .int a5)]) (st2 := [.int 17]) jF_212_28 rfl rfl) ?_
    refine Eq.trans (jr_s (pc2 := 32) (lv2 := [(6, .int 17), (7, .int a5), (0, .ref 117), (1, .int a1), (2, .int a2), (3, .int a3), (4, .int a4), (5, .int a5)]) (st2 := [.int 20, .int 17]) jF_212_30 rfl rfl) ?_
    refine Eq.trans (jr_ic0 jF_212_32 (by decide +kernel)) ?_
    refine Eq.trans (jr_s (pc2 := 37) (lv2 := [(6, .int 17), (7, .int a5), (0, .ref 117), (1, .int a1), (2, .int a2), (3, .int a3), (4, .int a4), (5, .int a5)]) (st2 := [.int 17]) jF_212_35 rfl rfl) ?_
    refine Eq.trans (jr_s (pc2 := 38) (lv2 := [(6, .int 17), (7, .int a5), (0, .ref 117), (1, .int a1), (2, .int a2), (3, .int a3), (4, .int a4), (5, .int a5)]) (st2 := [.int 4, .int 17]) jF_212_37 rfl rfl) ?_
    refine Eq.trans (jr_ic1 jF_212_38 (by decide +kernel)) ?_
    refine Eq.trans (jr_s (pc2 := 47) (lv2 := [(6, .int 17), (7, .int a5), (0, .ref 117), (1, .int a1), (2, .int a2), (3, .int a3), (4, .int a4), (5, .int a5)]) (st2 := [.int 17]) jF_212_45 rfl rfl) ?_
    refine Eq.trans (jr_s (pc2 := 49) (lv2 := [(6, .int 17), (7, .int a5), (0, .ref 117), (1, .int a1), (2, .int a2), (3, .int a3), (4, .int a4), (5, .int a5)]) (st2 := [.int 8, .int 17]) jF_212_47 rfl rfl) ?_
    refine Eq.trans (jr_ic1 jF_212_49 (by decide +kernel)) ?_
    refine Eq.trans (jr_s (pc2 := 58) (lv2 := [(6, .int 17), (7, .int a5), (0, .ref 117), (1, .int a1), (2, .int a2), (3, .int a3), (4, .int a4), (5, .int a5)]) (st2 := [.int 17]) jF_212_56 rfl rfl) ?_
    refine Eq.trans (jr_s (pc2 := 60) (lv2 := [(6, .int 17), (7, .int a5), (0, .ref 117), (1, .int a1), (2, .int a2), (3, .int a3), (4, .int a4), (5, .int a5)]) (st2 := [.int 12, .int 17]) jF_212_58 rfl rfl) ?_
    refine Eq.trans (jr_ic1 jF_212_60 (by decide +kernel)) ?_
    refine Eq.trans (jr_s (pc2 := 69) (lv2 := [(6, .int 17), (7, .int a5), (0, .ref 117), (1, .int a1), (2, .int a2), (3, .int a3), (4, .int a4), (5, .int a5)]) (st2 := [.int 17]) jF_212_67 rfl rfl) ?_
    refine Eq.trans (jr_s (pc2 := 71) (lv2 := [(6, .int 17), (7, .int a5), (0, .ref 117), (1, .int a1), (2, .int a2), (3, .int a3), (4, .int a4), (5, .int a5)]) (st2 := [.int 16, .int 17]) jF_212_69 rfl rfl) ?_
    refine Eq.trans (jr_ic1 jF_212_71 (by decide +kernel)) ?_
    refine Eq.trans (jr_s (pc2 := 81) (lv2 := [(6, .int 17), (7, .int a5), (0, .ref 117), (1, .int a1), (2, .int a2), (3, .int a3), (4, .int a4), (5, .int a5)]) (st2 := [.int a5]) jF_212_79 rfl rfl) ?_
    refine Eq.trans (jr_s (pc2 := 83) (lv2 := [(7, .int a5), (6, .int 17), (0, .ref 117), (1, .int a1), (2, .int a2), (3, .int a3), (4, .int a4), (5, .int a5)]) (st2 := []) jF_212_81 rfl rfl) ?_
    refine Eq.trans (jr_s (pc2 := 84) (lv2 := [(7, .int a5), (6, .int 17), (0, .ref 117), (1, .int a1), (2, .int a2), (3, .int a3), (4, .int a4), (5, .int a5)]) (st2 := [.ref 117]) jF_212_83 rfl rfl) ?_
    refine Eq.trans (jr_gf (v := .ref 118) jF_212_84 (FD.g4 (fq_74 a1 a2 a3 a4 a5))) ?_
    refine Eq.trans (jr_s (pc2 := 88) (lv2 := [(7, .int a5), (6, .int 17), (0, .ref 117), (1, .int a1), (2, .int a2), (3, .int a3), (4, .int a4), (5, .int a5)]) (st2 := [.ref 117, .ref 118]) jF_212_87 rfl rfl) ?_
    refine Eq.trans (jr_gf (v := .int 17) jF_212_88 (FD.g5 (fq_74 a1 a2 a3 a4 a5))) ?_
    refine Eq.trans (jr_s (pc2 := 93) (lv2 := [(7, .int a5), (6, .int 17), (0, .ref 117), (1, .int a1), (2, .int a2), (3, .int a3), (4, .int a4), (5, .int a5)]) (st2 := [.int a5, .int 17, .ref 118]) jF_212_91 rfl rfl) ?_
    refine Eq.trans (jr_s (pc2 := 95) (lv2 := [(7, .int a5), (6, .int 17), (0, .ref 117), (1, .int a1), (2, .int a2), (3, .int a3), (4, .int a4), (5, .int a5)]) (st2 := [.int 8, .int a5, .int 17, .ref 118]) jF_212_93 rfl rfl) ?_
    refine Eq.trans (jr_s (pc2 := 96) (lv2 := [(7, .int a5), (6, .int 17), (0, .ref 117), (1, .int a1), (2, .int a2), (3, .int a3), (4, .int a4), (5, .int a5)]) (st2 := [.int 3, .int 8, .int a5, .int 17, .ref 118]) jF_212_95 rfl rfl) ?_
    refine Eq.trans (jr_s (pc2 := 98) (lv2 := [(7, .int a5), (6, .int 17), (0, .ref 117), (1, .int a1), (2, .int a2), (3, .int a3), (4, .int a4), (5, .int a5)]) (st2 := [.int 17, .int 3, .int 8, .int a5, .int 17, .ref 118]) jF_212_96 rfl rfl) ?_
    refine Eq.trans (jr_s (pc2 := 99) (lv2 := [(7, .int a5), (6, .int 17), (0, .ref 117), (1, .int a1), (2, .int a2), (3, .int a3), (4, .int a4), (5, .int a5)]) (st2 := [.int 4, .int 17, .int 3, .int 8, .int a5, .int 17, .ref 118]) jF_212_98 rfl rfl) ?_
    refine Eq.trans (jr_s (pc2 := 100) (lv2 := [(7, .int a5), (6, .int 17), (0, .ref 117), (1, .int a1), (2, .int a2), (3, .int a3), (4, .int a4), (5, .int a5)]) (st2 := [.int 1, .int 3, .int 8, .int a5, .int 17, .ref 118]) jF_212_99 rfl rfl) ?_
    refine Eq.trans (jr_s (pc2 := 101) (lv2 := [(7, .int a5), (6, .int 17), (0, .ref 117), (1, .int a1), (2, .int a2), (3, .int a3), (4, .int a4), (5, .int a5)]) (st2 := [.int 2, .int 8, .int a5, .int 17, .ref 118]) jF_212_100 rfl rfl) ?_
    refine Eq.trans (jr_s (pc2 := 102) (lv2 := [(7, .int a5), (6, .int 17), (0, .ref 117), (1, .int a1), (2, .int a2), (3, .int a3), (4, .int a4), (5, .int a5)]) (st2 := [.int 16, .int a5, .int 17, .ref 118]) jF_212_101 rfl rfl) ?_
    refine Eq.trans (jr_s (pc2 := 103) (lv2 := [(7, .int a5), (6, .int 17), (0, .ref 117), (1, .int a1), (2, .int a2), (3, .int a3), (4, .int a4), (5, .int a5)]) (st2 := [.int (a5 >>> ((16 : Int32) &&& 31)), .int 17, .ref 118]) jF_212_102 rfl rfl) ?_
    refine Eq.trans (jr_s (pc2 := 106) (lv2 := [(7, .int a5), (6, .int 17), (0, .ref 117), (1, .int a1), (2, .int a2), (3, .int a3), (4, .int a4), (5, .int a5)]) (st2 := [.int 255, .int (a5 >>> ((16 : Int32) &&& 31)), .int 17, .ref 118]) jF_212_103 rfl rfl) ?_
    refine Eq.trans (jr_s (pc2 := 107) (lv2 := [(7, .int a5), (6, .int 17), (0, .ref 117), (1, .int a1), (2, .int a2), (3, .int a3), (4, .int a4), (5, .int a5)]) (st2 := [.int ((a5 >>> ((16 : Int32) &&& 31)) &&& 255), .int 17, .ref 118]) jF_212_106 rfl rfl) ?_
    refine Eq.trans (jr_sti (q := 17) jF_212_107 (j_aok_arl (FD.r2 (fq_74 a1 a2 a3 a4 a5)) (by decide)) (by decide +kernel)) ?_
    refine Eq.trans (jr_s (pc2 := 109) (lv2 := [(7, .int a5), (6, .int 17), (0, .ref 117), (1, .int a1), (2, .int a2), (3, .int a3), (4, .int a4), (5, .int a5)]) (st2 := [.ref 117]) jF_212_108 rfl rfl) ?_
    refine Eq.trans (jr_s (pc2 := 110) (lv2 := [(7, .int a5), (6, .int 17), (0, .ref 117), (1, .int a1), (2, .int a2), (3, .int a3), (4, .int a4), (5, .int a5)]) (st2 := [.ref 117, .ref 117]) jF_212_109 rfl rfl) ?_
    refine Eq.trans (jr_gf (v := .int 17) jF_212_110 (FD.g5 (fq_75 a1 a2 a3 a4 a5))) ?_
    refine Eq.trans (jr_s (pc2 := 114) (lv2 := [(7, .int a5), (6, .int 17), (0, .ref 117), (1, .int a1), (2, .int a2), (3, .int a3), (4, .int a4), (5, .int a5)]) (st2 := [.int 1, .int 17, .ref 117]) jF_212_113 rfl rfl) ?_
    refine Eq.trans (jr_s (pc2 := 115) (lv2 := [(7, .int a5), (6, .int 17), (0, .ref 117), (1, .int a1), (2, .int a2), (3, .int a3), (4, .int a4), (5, .int a5)]) (st2 := [.int 18, .ref 117]) jF_212_114 rfl rfl) ?_
    refine Eq.trans (jr_pf jF_212_115 (FD.o2 (fq_75 a1 a2 a3 a4 a5)) rfl) ?_
    refine Eq.trans (jr_s (pc2 := 121) (lv2 := [(6, .int 18), (7, .int a5), (0, .ref 117), (1, .int a1), (2, .int a2), (3, .int a3), (4, .int a4), (5, .int a5)]) (st2 := []) jF_212_118 rfl rfl) ?_
    refine Eq.trans (jr_s (pc2 := 28) (lv2 := [(6, .int 18), (7, .int a5), (0, .ref 117), (1, .int a1), (2, .int a2), (3, .int a3), (4, .int a4), (5, .int a5)]) (st2 := []) jF_212_121 rfl rfl) ?_
    refine Eq.trans (jr_s (pc2 := 30) (lv2 := [(6, .int 18), (7, .int a5), (0, .ref 117), (1, .int a1), (2, .int a2), (3, .int a3), (4, .int a4), (5, .int a5)]) (st2 := [.int 18]) jF_212_28 rfl rfl) ?_
    refine Eq.trans (jr_s (pc2 := 32) (lv2 := [(6, .int 18), (7, .int a5), (0, .ref 117), (1, .int a1), (2, .int a2), (3, .int a3), (4, .int a4), (5, .int a5)]) (st2 := [.int 20, .int 18]) jF_212_30 rfl rfl) ?_
    refine Eq.trans (jr_ic0 jF_212_32 (by decide +kernel)) ?_
    refine Eq.trans (jr_s (pc2 := 37) (lv2 := [(6, .int 18), (7, .int a5), (0, .ref 117), (1, .int a1), (2, .int a2), (3, .int a3), (4, .int a4), (5, .int a5)]) (st2 := [.int 18]) jF_212_35 rfl rfl) ?_
    refine Eq.trans (jr_s (pc2 := 38) (lv2 := [(6, .int 18), (7, .int a5), (0, .ref 117), (1, .int a1), (2, .int a2), (3, .int a3), (4, .int a4), (5, .int a5)]) (st2 := [.int 4, .int 18]) jF_212_37 rfl rfl) ?_
    refine Eq.trans (jr_ic1 jF_212_38 (by decide +kernel)) ?_
    refine Eq.trans (jr_s (pc2 := 47) (lv2 := [(6, .int 18), (7, .int a5), (0, .ref 117), (1, .int a1), (2, .int a2), (3, .int a3), (4, .int a4), (5, .int a5)]) (st2 := [.int 18]) jF_212_45 rfl rfl) ?_
    refine Eq.trans (jr_s (pc2 := 49) (lv2 := [(6, .int 18), (7, .int a5), (0, .ref 117), (1, .int a1), (2, .int a2), (3, .int a3), (4, .int a4), (5, .int a5)]) (st2 := [.int 8, .int 18]) jF_212_47 rfl rfl) ?_
    refine Eq.trans (jr_ic1 jF_212_49 (by decide +kernel)) ?_
    refine Eq.trans (jr_s (pc2 := 58) (lv2 := [(6, .int 18), (7, .int a5), (0, .ref 117), (1, .int a1), (2, .int a2), (3, .int a3), (4, .int a4), (5, .int a5)]) (st2 := [.int 18]) jF_212_56 rfl rfl) ?_
    refine Eq.trans (jr_s (pc2 := 60) (lv2 := [(6, .int 18), (7, .int a5), (0, .ref 117), (1, .int a1), (2, .int a2), (3, .int a3), (4, .int a4), (5, .int a5)]) (st2 := [.int 12, .int 18]) jF_212_58 rfl rfl) ?_
    refine Eq.trans (jr_ic1 jF_212_60 (by decide +kernel)) ?_
    refine Eq.trans (jr_s (pc2 := 69) (lv2 := [(6, .int 18), (7, .int a5), (0, .ref 117), (1, .int a1), (2, .int a2), (3, .int a3), (4, .int a4), (5, .int a5)]) (st2 := [.int 18]) jF_212_67 rfl rfl) ?_
    refine Eq.trans (jr_s (pc2 := 71) (lv2 := [(6, .int 18), (7, .int a5), (0, .ref 117), (1, .int a1), (2, .int a2), (3, .int a3), (4, .int a4), (5, .int a5)]) (st2 := [.int 16, .int 18]) jF_212_69 rfl rfl) ?_
    refine Eq.trans (jr_ic1 jF_212_71 (by decide +kernel)) ?_
    refine Eq.trans (jr_s (pc2 := 81) (lv2 := [(6, .int 18), (7, .int a5), (0, .ref 117), (1, .int a1), (2, .int a2), (3, .int a3), (4, .int a4), (5, .int a5)]) (st2 := [.int a5]) jF_212_79 rfl rfl) ?_
    refine Eq.trans (jr_s (pc2 := 83) (lv2 := [(7, .int a5), (6, .int 18), (0, .ref 117), (1, .int a1), (2, .int a2), (3, .int a3), (4, .int a4), (5, .int a5)]) (st2 := []) jF_212_81 rfl rfl) ?_
    refine Eq.trans (jr_s (pc2 := 84) (lv2 := [(7, .int a5), (6, .int 18), (0, .ref 117), (1, .int a1), (2, .int a2), (3, .int a3), (4, .int a4), (5, .int a5)]) (st2 := [.ref 117]) jF_212_83 rfl rfl) ?_
    refine Eq.trans (jr_gf (v := .ref 118) jF_212_84 (FD.g4 (fq_76 a1 a2 a3 a4 a5))) ?_
    refine Eq.trans (jr_s (pc2 := 88) (lv2 := [(7, .int a5), (6, .int 18), (0, .ref 117), (1, .int a1), (2, .int a2), (3, .int a3), (4, .int a4), (5, .int a5)]) (st2 := [.ref 117, .ref 118]) jF_212_87 rfl rfl) ?_
    refine Eq.trans (jr_gf (v := .int 18) jF_212_88 (FD.g5 (fq_76 a1 a2 a3 a4 a5))) ?_
    refine Eq.trans (jr_s (pc2 := 93) (lv2 := [(7, .int a5), (6, .int 18), (0, .ref 117), (1, .int a1), (2, .int a2), (3, .int a3), (4, .int a4), (5, .int a5)]) (st2 := [.int a5, .int 18, .ref 118]) jF_212_91 rfl rfl) ?_
    refine Eq.trans (jr_s (pc2 := 95) (lv2 := [(7, .int a5), (6, .int 18), (0, .ref 117), (1, .int a1), (2, .int a2), (3, .int a3), (4, .int a4), (5, .int a5)]) (st2 := [.int 8, .int a5, .int 18, .ref 118]) jF_212_93 rfl rfl) ?_
    refine Eq.trans (jr_s (pc2 := 96) (lv2 := [(7, .int a5), (6, .int 18), (0, .ref 117), (1, .int a1), (2, .int a2), (3, .int a3), (4, .int a4), (5, .int a5)]) (st2 := [.int 3, .int 8, .int a5, .int 18, .ref 118]) jF_212_95 rfl rfl) ?_
    refine Eq.trans (jr_s (pc2 := 98) (lv2 := [(7, .int a5), (6, .int 18), (0, .ref 117), (1, .int a1), (2, .int a2), (3, .int a3), (4, .int a4), (5, .int a5)]) (st2 := [.int 18, .int 3, .int 8, .int a5, .int 18, .ref 118]) jF_212_96 rfl rfl) ?_
    refine Eq.trans (jr_s (pc2 := 99) (lv2 := [(7, .int a5), (6, .int 18), (0, .ref 117), (1, .int a1), (2, .int a2), (3, .int a3), (4, .int a4), (5, .int a5)]) (st2 := [.int 4, .int 18, .int 3, .int 8, .int a5, .int 18, .ref 118]) jF_212_98 rfl rfl) ?_
    refine Eq.trans (jr_s (pc2 := 100) (lv2 := [(7, .int a5), (6, .int 18), (0, .ref 117), (1, .int a1), (2, .int a2), (3, .int a3), (4, .int a4), (5, .int a5)]) (st2 := [.int 2, .int 3, .int 8, .int a5, .int 18, .ref 118]) jF_212_99 rfl rfl) ?_
    refine Eq.trans (jr_s (pc2 := 101) (lv2 := [(7, .int a5), (6, .int 18), (0, .ref 117), (1, .int a1), (2, .int a2), (3, .int a3), (4, .int a4), (5, .int a5)]) (st2 := [.int 1, .int 8, .int a5, .int 18, .ref 118]) jF_212_100 rfl rfl) ?_
    refine Eq.trans (jr_s (pc2 := 102) (lv2 := [(7, .int a5), (6, .int 18), (0, .ref 117), (1, .int a1), (2, .int a2), (3, .int a3), (4, .int a4), (5, .int a5)]) (st2 := [.int 8, .int a5, .int 18, .ref 118]) jF_212_101 rfl rfl) ?_
    refine Eq.trans (jr_s (pc2 := 103) (lv2 := [(7, .int a5), (6, .int 18), (0, .ref 117), (1, .int a1), (2, .int a2), (3, .int a3), (4, .int a4), (5, .int a5)]) (st2 := [.int (a5 >>> ((8 : Int32) &&& 31)), .int 18, .ref 118]) jF_212_102 rfl rfl) ?_
    refine Eq.trans (jr_s (pc2 := 106) (lv2 := [(7, .int a5), (6, .int 18), (0, .ref 117), (1, .int a1), (2, .int a2), (3, .int a3), (4, .int a4), (5, .int a5)]) (st2 := [.int 255, .int (a5 >>> ((8 : Int32) &&& 31)), .int 18, .ref 118]) jF_212_103 rfl rfl) ?_
    refine Eq.trans (jr_s (pc2 := 107) (lv2 := [(7, .int a5), (6, .int 18), (0, .ref 117), (1, .int a1), (2, .int a2), (3, .int a3), (4, .int a4), (5, .int a5)]) (st2 := [.int ((a5 >>> ((8 : Int32) &&& 31)) &&& 255), .int 18, .ref 118]) jF_212_106 rfl rfl) ?_
    refine Eq.trans (jr_sti (q := 18) jF_212_107 (j_aok_arl (FD.r2 (fq_76 a1 a2 a3 a4 a5)) (by decide)) (by decide +kernel)) ?_
    refine Eq.trans (jr_s (pc2 := 109) (lv2 := [(7, .int a5), (6, .int 18), (0, .ref 117), (1, .int a1), (2, .int a2), (3, .int a3), (4, .int a4), (5, .int a5)]) (st2 := [.ref 117]) jF_212_108 rfl rfl) ?_
    refine Eq.trans (jr_s (pc2 := 110) (lv2 := [(7, .int a5), (6, .int 18), (0, .ref 117), (1, .int a1), (2, .int a2), (3, .int a3), (4, .int a4), (5, .int a5)]) (st2 := [.ref 117, .ref 117]) jF_212_109 rfl rfl) ?_
    refine Eq.trans (jr_gf (v := .int 18) jF_212_110 (FD.g5 (fq_77 a1 a2 a3 a4 a5))) ?_
    refine Eq.trans (jr_s (pc2 := 114) (lv2 := [(7, .int a5), (6, .int 18), (0, .ref 117), (1, .int a1), (2, .int a2), (3, .int a3), (4, .int a4), (5, .int a5)]) (st2 := [.int 1, .int 18, .ref 117]) jF_212_113 rfl rfl) ?_
    refine Eq.trans (jr_s (pc2 := 115) (lv2 := [(7, .int a5), (6, .int 18), (0, .ref 117), (1, .int a1), (2, .int a2), (3, .int a3), (4, .int a4), (5, .int a5)]) (st2 := [.int 19, .ref 117]) jF_212_114 rfl rfl) ?_
    refine Eq.trans (jr_pf jF_212_115 (FD.o2 (fq_77 a1 a2 a3 a4 a5)) rfl) ?_
    refine Eq.trans (jr_s (pc2 := 121) (lv2 := [(6, .int 19), (7, .int a5), (0, .ref 117), (1, .int a1), (2, .int a2), (3, .int a3), (4, .int a4), (5, .int a5)]) (st2 := []) jF_212_118 rfl rfl) ?_
    refine Eq.trans (jr_s (pc2 := 28) (lv2 := [(6, .int 19), (7, .int a5), (0, .ref 117), (1, .int a1), (2, .int a2), (3, .int a3), (4, .int a4), (5, .int a5)]) (st2 := []) jF_212_121 rfl rfl) ?_
    refine Eq.trans (jr_s (pc2 := 30) (lv2 := [(6, .int 19), (7, .int a5), (0, .ref 117), (1, .int a1), (2, .int a2), (3, .int a3), (4, .int a4), (5, .int a5)]) (st2 := [.int 19]) jF_212_28 rfl rfl) ?_
    refine Eq.trans (jr_s (pc2 := 32) (lv2 := [(6, .int 19), (7, .int a5), (0, .ref 117), (1, .int a1), (2, .int a2), (3, .int a3), (4, .int a4), (5, .int a5)]) (st2 := [.int 20, .int 19]) jF_212_30 rfl rfl) ?_
    refine Eq.trans (jr_ic0 jF_212_32 (by decide +kernel)) ?_
    refine Eq.trans (jr_s (pc2 := 37) (lv2 := [(6, .int 19), (7, .int a5), (0, .ref 117), (1, .int a1), (2, .int a2), (3, .int a3), (4, .int a4), (5, .int a5)]) (st2 := [.int 19]) jF_212_35 rfl rfl) ?_
    refine Eq.trans (jr_s (pc2 := 38) (lv2 := [(6, .int 19), (7, .int a5), (0, .ref 117), (1, .int a1), (2, .int a2), (3, .int a3), (4, .int a4), (5, .int a5)]) (st2 := [.int 4, .int 19]) jF_212_37 rfl rfl) ?_
    refine Eq.trans (jr_ic1 jF_212_38 (by decide +kernel)) ?_
    refine Eq.trans (jr_s (pc2 := 47) (lv2 := [(6, .int 19), (7, .int a5), (0, .ref 117), (1, .int a1), (2, .int a2), (3, .int a3), (4, .int a4), (5, .int a5)]) (st2 := [.int 19]) jF_212_45 rfl rfl) ?_
    refine Eq.trans (jr_s (pc2 := 49) (lv2 := [(6, .int 19), (7, .int a5), (0, .ref 117), (1, .int a1), (2, .int a2), (3, .int a3), (4, .int a4), (5, .int a5)]) (st2 := [.int 8, .int 19]) jF_212_47 rfl rfl) ?_
    refine Eq.trans (jr_ic1 jF_212_49 (by decide +kernel)) ?_
    refine Eq.trans (jr_s (pc2 := 58) (lv2 := [(6, .int 19), (7, .int a5), (0, .ref 117), (1, .int a1), (2, .int a2), (3, .int a3), (4, .int a4), (5, .int a5)]) (st2 := [.int 19]) jF_212_56 rfl rfl) ?_
    refine Eq.trans (jr_s (pc2 := 60) (lv2 := [(6, .int 19), (7, .int a5), (0, .ref 117), (1, .int a1), (2, .int a2), (3, .int a3), (4, .int a4), (5, .int a5)]) (st2 := [.int 12, .int 19]) jF_212_58 rfl rfl) ?_
    refine Eq.trans (jr_ic1 jF_212_60 (by decide +kernel)) ?_
    refine Eq.trans (jr_s (pc2 := 69) (lv2 := [(6, .int 19), (7, .int a5), (0, .ref 117), (1, .int a1), (2, .int a2), (3, .int a3), (4, .int a4), (5, .int a5)]) (st2 := [.int 19]) jF_212_67 rfl rfl) ?_
    refine Eq.trans (jr_s (pc2 := 71) (lv2 := [(6, .int 19), (7, .int a5), (0, .ref 117), (1, .int a1), (2, .int a2), (3, .int a3), (4, .int a4), (5, .int a5)]) (st2 := [.int 16, .int 19]) jF_212_69 rfl rfl) ?_
    refine Eq.trans (jr_ic1 jF_212_71 (by decide +kernel)) ?_
    refine Eq.trans (jr_s (pc2 := 81) (lv2 := [(6, .int 19), (7, .int a5), (0, .ref 117), (1, .int a1), (2, .int a2), (3, .int a3), (4, .int a4), (5, .int a5)]) (st2 := [.int a5]) jF_212_79 rfl rfl) ?_
    refine Eq.trans (jr_s (pc2 := 83) (lv2 := [(7, .int a5), (6, .int 19), (0, .ref 117), (1, .int a1), (2, .int a2), (3, .int a3), (4, .int a4), (5, .int a5)]) (st2 := []) jF_212_81 rfl rfl) ?_
    refine Eq.trans (jr_s (pc2 := 84) (lv2 := [(7, .int a5), (6, .int 19), (0, .ref 117), (1, .int a1), (2, .int a2), (3, .int a3), (4, .int a4), (5, .int a5)]) (st2 := [.ref 117]) jF_212_83 rfl rfl) ?_
    refine Eq.trans (jr_gf (v := .ref 118) jF_212_84 (FD.g4 (fq_78 a1 a2 a3 a4 a5))) ?_
    refine Eq.trans (jr_s (pc2 := 88) (lv2 := [(7, .int a5), (6, .int 19), (0, .ref 117), (1, .int a1), (2, .int a2), (3, .int a3), (4, .int a4), (5, .int a5)]) (st2 := [.ref 117, .ref 118]) jF_212_87 rfl rfl) ?_
    refine Eq.trans (jr_gf (v := .int 19) jF_212_88 (FD.g5 (fq_78 a1 a2 a3 a4 a5))) ?_
    refine Eq.trans (jr_s (pc2 := 93) (lv2 := [(7, .int a5), (6, .int 19), (0, .ref 117), (1, .int a1), (2, .int a2), (3, .int a3), (4, .int a4), (5, .int a5)]) (st2 := [.int a5, .int 19, .ref 118]) jF_212_91 rfl rfl) ?_
    refine Eq.trans (jr_s (pc2 := 95) (lv2 := [(7, .int a5), (6, .int 19), (0, .ref 117), (1, .int a1), (2, .int a2), (3, .int a3), (4, .int a4), (5, .int a5)]) (st2 := [.int 8, .int a5, .int 19, .ref 118]) jF_212_93 rfl rfl) ?_
    refine Eq.trans (jr_s (pc2 := 96) (lv2 := [(7, .int a5), (6, .int 19), (0, .ref 117), (1, .int a1), (2, .int a2), (3, .int a3), (4, .int a4), (5, .int a5)]) (st2 := [.int 3, .int 8, .int a5, .int 19, .ref 118]) jF_212_95 rfl rfl) ?_
    refine Eq.trans (jr_s (pc2 := 98) (lv2 := [(7, .int a5), (6, .int 19), (0, .ref 117), (1, .int a1), (2, .int a2), (3, .int a3), (4, .int a4), (5, .int a5)]) (st2 := [.int 19, .int 3, .int 8, .int a5, .int 19, .ref 118]) jF_212_96 rfl rfl) ?_
    refine Eq.trans (jr_s (pc2 := 99) (lv2 := [(7, .int a5), (6, .int 19), (0, .ref 117), (1, .int a1), (2, .int a2), (3, .int a3), (4, .int a4), (5, .int a5)]) (st2 := [.int 4, .int 19, .int 3, .int 8, .int a5, .int 19, .ref 118]) jF_212_98 rfl rfl) ?_
    refine Eq.trans (jr_s (pc2 := 100) (lv2 := [(7, .int a5), (6, .int 19), (0, .ref 117), (1, .int a1), (2, .int a2), (3, .int a3), (4, .int a4), (5, .int a5)]) (st2 := [.int 3, .int 3, .int 8, .int a5, .int 19, .ref 118]) jF_212_99 rfl rfl) ?_
    refine Eq.trans (jr_s (pc2 := 101) (lv2 := [(7, .int a5), (6, .int 19), (0, .ref 117), (1, .int a1), (2, .int a2), (3, .int a3), (4, .int a4), (5, .int a5)]) (st2 := [.int 0, .int 8, .int a5, .int 19, .ref 118]) jF_212_100 rfl rfl) ?_
    refine Eq.trans (jr_s (pc2 := 102) (lv2 := [(7, .int a5), (6, .int 19), (0, .ref 117), (1, .int a1), (2, .int a2), (3, .int a3), (4, .int a4), (5, .int a5)]) (st2 := [.int 0, .int a5, .int 19, .ref 118]) jF_212_101 rfl rfl) ?_
    refine Eq.trans (jr_s (pc2 := 103) (lv2 := [(7, .int a5), (6, .int 19), (0, .ref 117), (1, .int a1), (2, .int a2), (3, .int a3), (4, .int a4), (5, .int a5)]) (st2 := [.int (a5 >>> ((0 : Int32) &&& 31)), .int 19, .ref 118]) jF_212_102 rfl rfl) ?_
    refine Eq.trans (jr_s (pc2 := 106) (lv2 := [(7, .int a5), (6, .int 19), (0, .ref 117), (1, .int a1), (2, .int a2), (3, .int a3), (4, .int a4), (5, .int a5)]) (st2 := [.int 255, .int (a5 >>> ((0 : Int32) &&& 31)), .int 19, .ref 118]) jF_212_103 rfl rfl) ?_
    refine Eq.trans (jr_s (pc2 := 107) (lv2 := [(7, .int a5), (6, .int 19), (0, .ref 117), (1, .int a1), (2, .int a2), (3, .int a3), (4, .int a4), (5, .int a5)]) (st2 := [.int ((a5 >>> ((0 : Int32) &&& 31)) &&& 255), .int 19, .ref 118]) jF_212_106 rfl rfl) ?_
    refine Eq.trans (jr_sti (q := 19) jF_212_107 (j_aok_arl (FD.r2 (fq_78 a1 a2 a3 a4 a5)) (by decide)) (by decide +kernel)) ?_
    refine Eq.trans (jr_s (pc2 := 109) (lv2 := [(7, .int a5), (6, .int 19), (0, .ref 117), (1, .int a1), (2, .int a2), (3, .int a3), (4, .int a4), (5, .int a5)]) (st2 := [.ref 117]) jF_212_108 rfl rfl) ?_
    refine Eq.trans (jr_s (pc2 := 110) (lv2 := [(7, .int a5), (6, .int 19), (0, .ref 117), (1, .int a1), (2, .int a2), (3, .int a3), (4, .int a4), (5, .int a5)]) (st2 := [.ref 117, .ref 117]) jF_212_109 rfl rfl) ?_
    refine Eq.trans (jr_gf (v := .int 19) jF_212_110 (FD.g5 (fq_79 a1 a2 a3 a4 a5))) ?_
    refine Eq.trans (jr_s (pc2 := 114) (lv2 := [(7, .int a5), (6, .int 19), (0, .ref 117), (1, .int a1), (2, .int a2), (3, .int a3), (4, .int a4), (5, .int a5)]) (st2 := [.int 1, .int 19, .ref 117]) jF_212_113 rfl rfl) ?_
    refine Eq.trans (jr_s (pc2 := 115) (lv2 := [(7, .int a5), (6, .int 19), (0, .ref 117), (1, .int a1), (2, .int a2), (3, .int a3), (4, .int a4), (5, .int a5)]) (st2 := [.int 20, .ref 117]) jF_212_114 rfl rfl) ?_
    refine Eq.trans (jr_pf jF_212_115 (FD.o2 (fq_79 a1 a2 a3 a4 a5)) rfl) ?_
    refine Eq.trans (jr_s (pc2 := 121) (lv2 := [(6, .int 20), (7, .int a5), (0, .ref 117), (1, .int a1), (2, .int a2), (3, .int a3), (4, .int a4), (5, .int a5)]) (st2 := []) jF_212_118 rfl rfl) ?_
    refine Eq.trans (jr_s (pc2 := 28) (lv2 := [(6, .int 20), (7, .int a5), (0, .ref 117), (1, .int a1), (2, .int a2), (3, .int a3), (4, .int a4), (5, .int a5)]) (st2 := []) jF_212_121 rfl rfl) ?_
    refine Eq.trans (jr_s (pc2 := 30) (lv2 := [(6, .int 20), (7, .int a5), (0, .ref 117), (1, .int a1), (2, .int a2), (3, .int a3), (4, .int a4), (5, .int a5)]) (st2 := [.int 20]) jF_212_28 rfl rfl) ?_
    refine Eq.trans (jr_s (pc2 := 32) (lv2 := [(6, .int 20), (7, .int a5), (0, .ref 117), (1, .int a1), (2, .int a2), (3, .int a3), (4, .int a4), (5, .int a5)]) (st2 := [.int 20, .int 20]) jF_212_30 rfl rfl) ?_
    refine Eq.trans (jr_ic1 jF_212_32 (by decide +kernel)) ?_
    refine Eq.trans (jr_s (pc2 := 125) (lv2 := [(6, .int 20), (7, .int a5), (0, .ref 117), (1, .int a1), (2, .int a2), (3, .int a3), (4, .int a4), (5, .int a5)]) (st2 := [.ref 117]) jF_212_124 rfl rfl) ?_
    refine Eq.trans (jr_gf (v := .int 20) jF_212_125 (FD.g5 (fq_80 a1 a2 a3 a4 a5))) ?_
    exact jr_ri jF_212_128 rfl
