set_option maxHeartbeats 8000000 in
set_option maxRecDepth 100000 in
theorem pm_size_0 (a2 : Int32) : PM 95 270 [.int 0, .int a2] := by
  have ub_a2 := Int32.toInt_lt a2
  have lb_a2 := Int32.le_toInt a2
  rcases j_ilt a2.toInt 0 with h_a2_0 | h_a2_0
  · refine ⟨60000, 60000, (-1), jh2, (j_hp (JR 21 271 0 (lv_args 0 [.ref 117, .int 0]) [] jh2 0 0 499 19978)), ?_, ?_, by decide +kernel⟩
    · refine Eq.trans (jr_s (pc2 := 1) (lv2 := [(0, .ref 9), (1, .int 0), (2, .int a2)]) (st2 := [.int 0]) jF_95_0 rfl rfl) ?_
      refine Eq.trans (jr_if1 jF_95_1 (by decide +kernel)) ?_
      refine Eq.trans (jr_s (pc2 := 12) (lv2 := [(0, .ref 9), (1, .int 0), (2, .int a2)]) (st2 := [.ref 9]) jF_95_11 rfl rfl) ?_
      refine Eq.trans (jr_gf (v := .ref 70) jF_95_12 (by decide +kernel)) ?_
      refine Eq.trans (jr_s (pc2 := 16) (lv2 := [(3, .ref 70), (0, .ref 9), (1, .int 0), (2, .int a2)]) (st2 := []) jF_95_15 rfl rfl) ?_
      refine Eq.trans (jr_s (pc2 := 17) (lv2 := [(3, .ref 70), (0, .ref 9), (1, .int 0), (2, .int a2)]) (st2 := [.int a2]) jF_95_16 rfl rfl) ?_
      refine Eq.trans (jr_ts jF_95_17 (Or.inl (by omega)) (tgt := 98) rfl) ?_
      refine Eq.trans (jr_s (pc2 := 99) (lv2 := [(3, .ref 70), (0, .ref 9), (1, .int 0), (2, .int a2)]) (st2 := [.int (-1)]) jF_95_98 rfl rfl) ?_
      exact jr_ri jF_95_99 rfl
    · refine Eq.trans (jr_s (pc2 := 1) (lv2 := [(0, .ref 117), (1, .int 0), (2, .int a2)]) (st2 := [.ref 117]) jF_270_0 rfl rfl) ?_
      refine Eq.trans (jr_s (pc2 := 2) (lv2 := [(0, .ref 117), (1, .int 0), (2, .int a2)]) (st2 := [.int 0, .ref 117]) jF_270_1 rfl rfl) ?_
      refine Eq.trans (jr_cS (as := [.int 0]) (rest := [.ref 117]) (v := some (.int 0)) (hp2 := jh2) (fr2 := 499) (lo2 := 19980) jF_270_2 rfl (show j_cnd 500 20000 499 19980 1 _ _ = true from rfl) ?_) ?_
      · refine Eq.trans (jr_s (pc2 := 1) (lv2 := [(0, .int 0)]) (st2 := [.int 0]) jF_269_0 rfl rfl) ?_
        refine Eq.trans (jr_if1 jF_269_1 (by decide +kernel)) ?_
        refine Eq.trans (jr_s (pc2 := 9) (lv2 := [(0, .int 0)]) (st2 := [.int 0]) jF_269_8 rfl rfl) ?_
        exact jr_ri jF_269_9 rfl
      refine Eq.trans (jr_cV (a := 117) (as := [.int 0]) (rest := []) (v := none) (hp2 := (j_hp (JR 21 271 0 (lv_args 0 [.ref 117, .int 0]) [] jh2 0 0 499 19978))) (fr2 := 499) (lo2 := 19978) jF_270_5 (by decide +kernel) rfl (show j_cnd 500 20000 499 19978 3 _ _ = true from rfl) ?_) ?_
      · exact jr_upl (jr_cl (v := none) (by decide +kernel)) (by omega)
      refine Eq.trans (jr_s (pc2 := 9) (lv2 := [(0, .ref 117), (1, .int 0), (2, .int a2)]) (st2 := [.int a2]) jF_270_8 rfl rfl) ?_
      refine Eq.trans (jr_ts jF_270_9 (Or.inl (by omega)) (tgt := 93) rfl) ?_
      refine Eq.trans (jr_s (pc2 := 94) (lv2 := [(0, .ref 117), (1, .int 0), (2, .int a2)]) (st2 := [.int (-1)]) jF_270_93 rfl rfl) ?_
      exact jr_ri jF_270_94 rfl
  · rcases j_ilt a2.toInt 1 with h_a2_1 | h_a2_1
    · obtain rfl : a2 = 0 := Int32.toInt_inj.mp (by rw [show (0 : Int32).toInt = 0 from by decide]; omega)
      exact jpair_ok (n1 := 100000) (n2 := 100000) (by decide +kernel)
    · rcases j_ilt a2.toInt 2 with h_a2_2 | h_a2_2
      · obtain rfl : a2 = 1 := Int32.toInt_inj.mp (by rw [show (1 : Int32).toInt = 1 from by decide]; omega)
        exact jpair_ok (n1 := 100000) (n2 := 100000) (by decide +kernel)
      · rcases j_ilt a2.toInt 3 with h_a2_3 | h_a2_3
        · obtain rfl : a2 = 2 := Int32.toInt_inj.mp (by rw [show (2 : Int32).toInt = 2 from by decide]; omega)
          exact jpair_ok (n1 := 100000) (n2 := 100000) (by decide +kernel)
        · rcases j_ilt a2.toInt 4 with h_a2_4 | h_a2_4
          · obtain rfl : a2 = 3 := Int32.toInt_inj.mp (by rw [show (3 : Int32).toInt = 3 from by decide]; omega)
            exact jpair_ok (n1 := 100000) (n2 := 100000) (by decide +kernel)
          · rcases j_ilt a2.toInt 5 with h_a2_5 | h_a2_5
            · obtain rfl : a2 = 4 := Int32.toInt_inj.mp (by rw [show (4 : Int32).toInt = 4 from by decide]; omega)
              exact jpair_ok (n1 := 100000) (n2 := 100000) (by decide +kernel)
            · refine ⟨60000, 60000, (-1), jh2, (j_hp (JR 21 271 0 (lv_args 0 [.ref 117, .int 0]) [] jh2 0 0 499 19978)), ?_, ?_, by decide +kernel⟩
              · refine Eq.trans (jr_s (pc2 := 1) (lv2 := [(0, .ref 9), (1, .int 0), (2, .int a2)]) (st2 := [.int 0]) jF_95_0 rfl rfl) ?_
                refine Eq.trans (jr_if1 jF_95_1 (by decide +kernel)) ?_
                refine Eq.trans (jr_s (pc2 := 12) (lv2 := [(0, .ref 9), (1, .int 0), (2, .int a2)]) (st2 := [.ref 9]) jF_95_11 rfl rfl) ?_
                refine Eq.trans (jr_gf (v := .ref 70) jF_95_12 (by decide +kernel)) ?_
                refine Eq.trans (jr_s (pc2 := 16) (lv2 := [(3, .ref 70), (0, .ref 9), (1, .int 0), (2, .int a2)]) (st2 := []) jF_95_15 rfl rfl) ?_
                refine Eq.trans (jr_s (pc2 := 17) (lv2 := [(3, .ref 70), (0, .ref 9), (1, .int 0), (2, .int a2)]) (st2 := [.int a2]) jF_95_16 rfl rfl) ?_
                refine Eq.trans (jr_ts jF_95_17 (Or.inr (by omega)) (tgt := 98) rfl) ?_
                refine Eq.trans (jr_s (pc2 := 99) (lv2 := [(3, .ref 70), (0, .ref 9), (1, .int 0), (2, .int a2)]) (st2 := [.int (-1)]) jF_95_98 rfl rfl) ?_
                exact jr_ri jF_95_99 rfl
              · refine Eq.trans (jr_s (pc2 := 1) (lv2 := [(0, .ref 117), (1, .int 0), (2, .int a2)]) (st2 := [.ref 117]) jF_270_0 rfl rfl) ?_
                refine Eq.trans (jr_s (pc2 := 2) (lv2 := [(0, .ref 117), (1, .int 0), (2, .int a2)]) (st2 := [.int 0, .ref 117]) jF_270_1 rfl rfl) ?_
                refine Eq.trans (jr_cS (as := [.int 0]) (rest := [.ref 117]) (v := some (.int 0)) (hp2 := jh2) (fr2 := 499) (lo2 := 19980) jF_270_2 rfl (show j_cnd 500 20000 499 19980 1 _ _ = true from rfl) ?_) ?_
                · refine Eq.trans (jr_s (pc2 := 1) (lv2 := [(0, .int 0)]) (st2 := [.int 0]) jF_269_0 rfl rfl) ?_
                  refine Eq.trans (jr_if1 jF_269_1 (by decide +kernel)) ?_
                  refine Eq.trans (jr_s (pc2 := 9) (lv2 := [(0, .int 0)]) (st2 := [.int 0]) jF_269_8 rfl rfl) ?_
                  exact jr_ri jF_269_9 rfl
                refine Eq.trans (jr_cV (a := 117) (as := [.int 0]) (rest := []) (v := none) (hp2 := (j_hp (JR 21 271 0 (lv_args 0 [.ref 117, .int 0]) [] jh2 0 0 499 19978))) (fr2 := 499) (lo2 := 19978) jF_270_5 (by decide +kernel) rfl (show j_cnd 500 20000 499 19978 3 _ _ = true from rfl) ?_) ?_
                · exact jr_upl (jr_cl (v := none) (by decide +kernel)) (by omega)
                refine Eq.trans (jr_s (pc2 := 9) (lv2 := [(0, .ref 117), (1, .int 0), (2, .int a2)]) (st2 := [.int a2]) jF_270_8 rfl rfl) ?_
                refine Eq.trans (jr_ts jF_270_9 (Or.inr (by omega)) (tgt := 93) rfl) ?_
                refine Eq.trans (jr_s (pc2 := 94) (lv2 := [(0, .ref 117), (1, .int 0), (2, .int a2)]) (st2 := [.int (-1)]) jF_270_93 rfl rfl) ?_
                exact jr_ri jF_270_94 rfl
set_option maxHeartbeats 8000000 in
set_option maxRecDepth 100000 in
theorem pm_size_1 (a2 : Int32) : PM 95 270 [.int 1, .int a2] := by
  have ub_a2 := Int32.toInt_lt a2
  have lb_a2 := Int32.le_toInt a2
  rcases j_ilt a2.toInt 0 with h_a2_0 | h_a2_0
  · refine ⟨60000, 60000, (-1), jh2, (j_hp (JR 21 271 0 (lv_args 0 [.ref 117, .int 1]) [] jh2 0 0 499 19978)), ?_, ?_, by decide +kernel⟩
    · refine Eq.trans (jr_s (pc2 := 1) (lv2 := [(0, .ref 9), (1, .int 1), (2, .int a2)]) (st2 := [.int 1]) jF_95_0 rfl rfl) ?_
      refine Eq.trans (jr_if0 jF_95_1 (by decide +kernel)) ?_
      refine Eq.trans (jr_s (pc2 := 5) (lv2 := [(0, .ref 9), (1, .int 1), (2, .int a2)]) (st2 := [.ref 9]) jF_95_4 rfl rfl) ?_
      refine Eq.trans (jr_gf (v := .ref 75) jF_95_5 (by decide +kernel)) ?_
      refine Eq.trans (jr_s (pc2 := 15) (lv2 := [(0, .ref 9), (1, .int 1), (2, .int a2)]) (st2 := [.ref 75]) jF_95_8 rfl rfl) ?_
      refine Eq.trans (jr_s (pc2 := 16) (lv2 := [(3, .ref 75), (0, .ref 9), (1, .int 1), (2, .int a2)]) (st2 := []) jF_95_15 rfl rfl) ?_
      refine Eq.trans (jr_s (pc2 := 17) (lv2 := [(3, .ref 75), (0, .ref 9), (1, .int 1), (2, .int a2)]) (st2 := [.int a2]) jF_95_16 rfl rfl) ?_
      refine Eq.trans (jr_ts jF_95_17 (Or.inl (by omega)) (tgt := 98) rfl) ?_
      refine Eq.trans (jr_s (pc2 := 99) (lv2 := [(3, .ref 75), (0, .ref 9), (1, .int 1), (2, .int a2)]) (st2 := [.int (-1)]) jF_95_98 rfl rfl) ?_
      exact jr_ri jF_95_99 rfl
    · refine Eq.trans (jr_s (pc2 := 1) (lv2 := [(0, .ref 117), (1, .int 1), (2, .int a2)]) (st2 := [.ref 117]) jF_270_0 rfl rfl) ?_
      refine Eq.trans (jr_s (pc2 := 2) (lv2 := [(0, .ref 117), (1, .int 1), (2, .int a2)]) (st2 := [.int 1, .ref 117]) jF_270_1 rfl rfl) ?_
      refine Eq.trans (jr_cS (as := [.int 1]) (rest := [.ref 117]) (v := some (.int 1)) (hp2 := jh2) (fr2 := 499) (lo2 := 19980) jF_270_2 rfl (show j_cnd 500 20000 499 19980 1 _ _ = true from rfl) ?_) ?_
      · refine Eq.trans (jr_s (pc2 := 1) (lv2 := [(0, .int 1)]) (st2 := [.int 1]) jF_269_0 rfl rfl) ?_
        refine Eq.trans (jr_if0 jF_269_1 (by decide +kernel)) ?_
        refine Eq.trans (jr_s (pc2 := 5) (lv2 := [(0, .int 1)]) (st2 := [.int 1]) jF_269_4 rfl rfl) ?_
        refine Eq.trans (jr_s (pc2 := 9) (lv2 := [(0, .int 1)]) (st2 := [.int 1]) jF_269_5 rfl rfl) ?_
        exact jr_ri jF_269_9 rfl
      refine Eq.trans (jr_cV (a := 117) (as := [.int 1]) (rest := []) (v := none) (hp2 := (j_hp (JR 21 271 0 (lv_args 0 [.ref 117, .int 1]) [] jh2 0 0 499 19978))) (fr2 := 499) (lo2 := 19978) jF_270_5 (by decide +kernel) rfl (show j_cnd 500 20000 499 19978 3 _ _ = true from rfl) ?_) ?_
      · exact jr_upl (jr_cl (v := none) (by decide +kernel)) (by omega)
      refine Eq.trans (jr_s (pc2 := 9) (lv2 := [(0, .ref 117), (1, .int 1), (2, .int a2)]) (st2 := [.int a2]) jF_270_8 rfl rfl) ?_
      refine Eq.trans (jr_ts jF_270_9 (Or.inl (by omega)) (tgt := 93) rfl) ?_
      refine Eq.trans (jr_s (pc2 := 94) (lv2 := [(0, .ref 117), (1, .int 1), (2, .int a2)]) (st2 := [.int (-1)]) jF_270_93 rfl rfl) ?_
      exact jr_ri jF_270_94 rfl
  · rcases j_ilt a2.toInt 1 with h_a2_1 | h_a2_1
    · obtain rfl : a2 = 0 := Int32.toInt_inj.mp (by rw [show (0 : Int32).toInt = 0 from by decide]; omega)
      exact jpair_ok (n1 := 100000) (n2 := 100000) (by decide +kernel)
    · rcases j_ilt a2.toInt 2 with h_a2_2 | h_a2_2
      · obtain rfl : a2 = 1 := Int32.toInt_inj.mp (by rw [show (1 : Int32).toInt = 1 from by decide]; omega)
        exact jpair_ok (n1 := 100000) (n2 := 100000) (by decide +kernel)
      · rcases j_ilt a2.toInt 3 with h_a2_3 | h_a2_3
        · obtain rfl : a2 = 2 := Int32.toInt_inj.mp (by rw [show (2 : Int32).toInt = 2 from by decide]; omega)
          exact jpair_ok (n1 := 100000) (n2 := 100000) (by decide +kernel)
        · rcases j_ilt a2.toInt 4 with h_a2_4 | h_a2_4
          · obtain rfl : a2 = 3 := Int32.toInt_inj.mp (by rw [show (3 : Int32).toInt = 3 from by decide]; omega)
            exact jpair_ok (n1 := 100000) (n2 := 100000) (by decide +kernel)
          · rcases j_ilt a2.toInt 5 with h_a2_5 | h_a2_5
            · obtain rfl : a2 = 4 := Int32.toInt_inj.mp (by rw [show (4 : Int32).toInt = 4 from by decide]; omega)
              exact jpair_ok (n1 := 100000) (n2 := 100000) (by decide +kernel)
            · refine ⟨60000, 60000, (-1), jh2, (j_hp (JR 21 271 0 (lv_args 0 [.ref 117, .int 1]) [] jh2 0 0 499 19978)), ?_, ?_, by decide +kernel⟩
              · refine Eq.trans (jr_s (pc2 := 1) (lv2 := [(0, .ref 9), (1, .int 1), (2, .int a2)]) (st2 := [.int 1]) jF_95_0 rfl rfl) ?_
                refine Eq.trans (jr_if0 jF_95_1 (by decide +kernel)) ?_
                refine Eq.trans (jr_s (pc2 := 5) (lv2 := [(0, .ref 9), (1, .int 1), (2, .int a2)]) (st2 := [.ref 9]) jF_95_4 rfl rfl) ?_
                refine Eq.trans (jr_gf (v := .ref 75) jF_95_5 (by decide +kernel)) ?_
                refine Eq.trans (jr_s (pc2 := 15) (lv2 := [(0, .ref 9), (1, .int 1), (2, .int a2)]) (st2 := [.ref 75]) jF_95_8 rfl rfl) ?_
                refine Eq.trans (jr_s (pc2 := 16) (lv2 := [(3, .ref 75), (0, .ref 9), (1, .int 1), (2, .int a2)]) (st2 := []) jF_95_15 rfl rfl) ?_
                refine Eq.trans (jr_s (pc2 := 17) (lv2 := [(3, .ref 75), (0, .ref 9), (1, .int 1), (2, .int a2)]) (st2 := [.int a2]) jF_95_16 rfl rfl) ?_
                refine Eq.trans (jr_ts jF_95_17 (Or.inr (by omega)) (tgt := 98) rfl) ?_
                refine Eq.trans (jr_s (pc2 := 99) (lv2 := [(3, .ref 75), (0, .ref 9), (1, .int 1), (2, .int a2)]) (st2 := [.int (-1)]) jF_95_98 rfl rfl) ?_
                exact jr_ri jF_95_99 rfl
              · refine Eq.trans (jr_s (pc2 := 1) (lv2 := [(0, .ref 117), (1, .int 1), (2, .int a2)]) (st2 := [.ref 117]) jF_270_0 rfl rfl) ?_
                refine Eq.trans (jr_s (pc2 := 2) (lv2 := [(0, .ref 117), (1, .int 1), (2, .int a2)]) (st2 := [.int 1, .ref 117]) jF_270_1 rfl rfl) ?_
                refine Eq.trans (jr_cS (as := [.int 1]) (rest := [.ref 117]) (v := some (.int 1)) (hp2 := jh2) (fr2 := 499) (lo2 := 19980) jF_270_2 rfl (show j_cnd 500 20000 499 19980 1 _ _ = true from rfl) ?_) ?_
                · refine Eq.trans (jr_s (pc2 := 1) (lv2 := [(0, .int 1)]) (st2 := [.int 1]) jF_269_0 rfl rfl) ?_
                  refine Eq.trans (jr_if0 jF_269_1 (by decide +kernel)) ?_
                  refine Eq.trans (jr_s (pc2 := 5) (lv2 := [(0, .int 1)]) (st2 := [.int 1]) jF_269_4 rfl rfl) ?_
                  refine Eq.trans (jr_s (pc2 := 9) (lv2 := [(0, .int 1)]) (st2 := [.int 1]) jF_269_5 rfl rfl) ?_
                  exact jr_ri jF_269_9 rfl
                refine Eq.trans (jr_cV (a := 117) (as := [.int 1]) (rest := []) (v := none) (hp2 := (j_hp (JR 21 271 0 (lv_args 0 [.ref 117, .int 1]) [] jh2 0 0 499 19978))) (fr2 := 499) (lo2 := 19978) jF_270_5 (by decide +kernel) rfl (show j_cnd 500 20000 499 19978 3 _ _ = true from rfl) ?_) ?_
                · exact jr_upl (jr_cl (v := none) (by decide +kernel)) (by omega)
                refine Eq.trans (jr_s (pc2 := 9) (lv2 := [(0, .ref 117), (1, .int 1), (2, .int a2)]) (st2 := [.int a2]) jF_270_8 rfl rfl) ?_
                refine Eq.trans (jr_ts jF_270_9 (Or.inr (by omega)) (tgt := 93) rfl) ?_
                refine Eq.trans (jr_s (pc2 := 94) (lv2 := [(0, .ref 117), (1, .int 1), (2, .int a2)]) (st2 := [.int (-1)]) jF_270_93 rfl rfl) ?_
                exact jr_ri jF_270_94 rfl
