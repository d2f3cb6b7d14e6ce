set_option maxHeartbeats 8000000 in
set_option maxRecDepth 100000 in
theorem pm_letter (a1 a2 : Int32) : PM 92 266 [.int a1, .int a2] := by
  have ub_a1 := Int32.toInt_lt a1
  have lb_a1 := Int32.le_toInt a1
  have ub_a2 := Int32.toInt_lt a2
  have lb_a2 := Int32.le_toInt a2
  rcases j_ilt a1.toInt 0 with h_a1_0 | h_a1_0
  · rcases j_ilt a1.toInt (-2147483628) with h_a1_2147483628m | h_a1_2147483628m
    · rcases j_ilt a1.toInt (-2147483647) with h_a1_2147483647m | h_a1_2147483647m
      · obtain rfl : a1 = (-2147483648) := Int32.toInt_inj.mp (by rw [show ((-2147483648) : Int32).toInt = (-2147483648) from by decide]; omega)
        exact pm_letter_L0 a2 (by omega) (by omega)
      · rcases j_ilt a1.toInt (-2147483646) with h_a1_2147483646m | h_a1_2147483646m
        · obtain rfl : a1 = (-2147483647) := Int32.toInt_inj.mp (by rw [show ((-2147483647) : Int32).toInt = (-2147483647) from by decide]; omega)
          exact pm_letter_L1 a2 (by omega) (by omega)
        · rcases j_ilt a1.toInt (-2147483645) with h_a1_2147483645m | h_a1_2147483645m
          · obtain rfl : a1 = (-2147483646) := Int32.toInt_inj.mp (by rw [show ((-2147483646) : Int32).toInt = (-2147483646) from by decide]; omega)
            exact pm_letter_L2 a2 (by omega) (by omega)
          · rcases j_ilt a1.toInt (-2147483644) with h_a1_2147483644m | h_a1_2147483644m
            · obtain rfl : a1 = (-2147483645) := Int32.toInt_inj.mp (by rw [show ((-2147483645) : Int32).toInt = (-2147483645) from by decide]; omega)
              exact pm_letter_L3 a2 (by omega) (by omega)
            · rcases j_ilt a1.toInt (-2147483643) with h_a1_2147483643m | h_a1_2147483643m
              · obtain rfl : a1 = (-2147483644) := Int32.toInt_inj.mp (by rw [show ((-2147483644) : Int32).toInt = (-2147483644) from by decide]; omega)
                exact pm_letter_L4 a2 (by omega) (by omega)
              · rcases j_ilt a1.toInt (-2147483642) with h_a1_2147483642m | h_a1_2147483642m
                · obtain rfl : a1 = (-2147483643) := Int32.toInt_inj.mp (by rw [show ((-2147483643) : Int32).toInt = (-2147483643) from by decide]; omega)
                  exact pm_letter_L5 a2 (by omega) (by omega)
                · rcases j_ilt a1.toInt (-2147483641) with h_a1_2147483641m | h_a1_2147483641m
                  · obtain rfl : a1 = (-2147483642) := Int32.toInt_inj.mp (by rw [show ((-2147483642) : Int32).toInt = (-2147483642) from by decide]; omega)
                    exact pm_letter_L6 a2 (by omega) (by omega)
                  · rcases j_ilt a1.toInt (-2147483640) with h_a1_2147483640m | h_a1_2147483640m
                    · obtain rfl : a1 = (-2147483641) := Int32.toInt_inj.mp (by rw [show ((-2147483641) : Int32).toInt = (-2147483641) from by decide]; omega)
                      exact pm_letter_L7 a2 (by omega) (by omega)
                    · rcases j_ilt a1.toInt (-2147483639) with h_a1_2147483639m | h_a1_2147483639m
                      · obtain rfl : a1 = (-2147483640) := Int32.toInt_inj.mp (by rw [show ((-2147483640) : Int32).toInt = (-2147483640) from by decide]; omega)
                        exact pm_letter_L8 a2 (by omega) (by omega)
                      · rcases j_ilt a1.toInt (-2147483638) with h_a1_2147483638m | h_a1_2147483638m
                        · obtain rfl : a1 = (-2147483639) := Int32.toInt_inj.mp (by rw [show ((-2147483639) : Int32).toInt = (-2147483639) from by decide]; omega)
                          exact pm_letter_L9 a2 (by omega) (by omega)
                        · rcases j_ilt a1.toInt (-2147483637) with h_a1_2147483637m | h_a1_2147483637m
                          · obtain rfl : a1 = (-2147483638) := Int32.toInt_inj.mp (by rw [show ((-2147483638) : Int32).toInt = (-2147483638) from by decide]; omega)
                            exact pm_letter_L10 a2 (by omega) (by omega)
                          · rcases j_ilt a1.toInt (-2147483636) with h_a1_2147483636m | h_a1_2147483636m
                            · obtain rfl : a1 = (-2147483637) := Int32.toInt_inj.mp (by rw [show ((-2147483637) : Int32).toInt = (-2147483637) from by decide]; omega)
                              exact pm_letter_L11 a2 (by omega) (by omega)
                            · rcases j_ilt a1.toInt (-2147483635) with h_a1_2147483635m | h_a1_2147483635m
                              · obtain rfl : a1 = (-2147483636) := Int32.toInt_inj.mp (by rw [show ((-2147483636) : Int32).toInt = (-2147483636) from by decide]; omega)
                                exact pm_letter_L12 a2 (by omega) (by omega)
                              · rcases j_ilt a1.toInt (-2147483634) with h_a1_2147483634m | h_a1_2147483634m
                                · obtain rfl : a1 = (-2147483635) := Int32.toInt_inj.mp (by rw [show ((-2147483635) : Int32).toInt = (-2147483635) from by decide]; omega)
                                  exact pm_letter_L13 a2 (by omega) (by omega)
                                · rcases j_ilt a1.toInt (-2147483633) with h_a1_2147483633m | h_a1_2147483633m
                                  · obtain rfl : a1 = (-2147483634) := Int32.toInt_inj.mp (by rw [show ((-2147483634) : Int32).toInt = (-2147483634) from by decide]; omega)
                                    exact pm_letter_L14 a2 (by omega) (by omega)
                                  · rcases j_ilt a1.toInt (-2147483632) with h_a1_2147483632m | h_a1_2147483632m
                                    · obtain rfl : a1 = (-2147483633) := Int32.toInt_inj.mp (by rw [show ((-2147483633) : Int32).toInt = (-2147483633) from by decide]; omega)
                                      exact pm_letter_L15 a2 (by omega) (by omega)
                                    · rcases j_ilt a1.toInt (-2147483631) with h_a1_2147483631m | h_a1_2147483631m
                                      · obtain rfl : a1 = (-2147483632) := Int32.toInt_inj.mp (by rw [show ((-2147483632) : Int32).toInt = (-2147483632) from by decide]; omega)
                                        exact pm_letter_L16 a2 (by omega) (by omega)
                                      · rcases j_ilt a1.toInt (-2147483630) with h_a1_2147483630m | h_a1_2147483630m
                                        · obtain rfl : a1 = (-2147483631) := Int32.toInt_inj.mp (by rw [show ((-2147483631) : Int32).toInt = (-2147483631) from by decide]; omega)
                                          exact pm_letter_L17 a2 (by omega) (by omega)
                                        · rcases j_ilt a1.toInt (-2147483629) with h_a1_2147483629m | h_a1_2147483629m
                                          · obtain rfl : a1 = (-2147483630) := Int32.toInt_inj.mp (by rw [show ((-2147483630) : Int32).toInt = (-2147483630) from by decide]; omega)
                                            exact pm_letter_L18 a2 (by omega) (by omega)
                                          · obtain rfl : a1 = (-2147483629) := Int32.toInt_inj.mp (by rw [show ((-2147483629) : Int32).toInt = (-2147483629) from by decide]; omega)
                                            exact pm_letter_L19 a2 (by omega) (by omega)
    · exact pm_letter_L20 a1 a2 (by omega) (by omega) (by omega) (by omega)
  · rcases j_ilt a1.toInt 25 with h_a1_25 | h_a1_25
    · rcases j_ilt a2.toInt 0 with h_a2_0 | h_a2_0
      · rcases j_ilt a1.toInt 18 with h_a1_18 | h_a1_18
        · rcases j_ilt a1.toInt 1 with h_a1_1 | h_a1_1
          · obtain rfl : a1 = 0 := Int32.toInt_inj.mp (by rw [show (0 : Int32).toInt = 0 from by decide]; omega)
            exact pm_letter_L21 a2 (by omega) (by omega)
          · rcases j_ilt a1.toInt 2 with h_a1_2 | h_a1_2
            · obtain rfl : a1 = 1 := Int32.toInt_inj.mp (by rw [show (1 : Int32).toInt = 1 from by decide]; omega)
              exact pm_letter_L22 a2 (by omega) (by omega)
            · rcases j_ilt a1.toInt 3 with h_a1_3 | h_a1_3
              · obtain rfl : a1 = 2 := Int32.toInt_inj.mp (by rw [show (2 : Int32).toInt = 2 from by decide]; omega)
                exact pm_letter_L23 a2 (by omega) (by omega)
              · rcases j_ilt a1.toInt 4 with h_a1_4 | h_a1_4
                · obtain rfl : a1 = 3 := Int32.toInt_inj.mp (by rw [show (3 : Int32).toInt = 3 from by decide]; omega)
                  exact pm_letter_L24 a2 (by omega) (by omega)
                · rcases j_ilt a1.toInt 5 with h_a1_5 | h_a1_5
                  · obtain rfl : a1 = 4 := Int32.toInt_inj.mp (by rw [show (4 : Int32).toInt = 4 from by decide]; omega)
                    exact pm_letter_L25 a2 (by omega) (by omega)
                  · rcases j_ilt a1.toInt 6 with h_a1_6 | h_a1_6
                    · obtain rfl : a1 = 5 := Int32.toInt_inj.mp (by rw [show (5 : Int32).toInt = 5 from by decide]; omega)
                      exact pm_letter_L26 a2 (by omega) (by omega)
                    · rcases j_ilt a1.toInt 7 with h_a1_7 | h_a1_7
                      · obtain rfl : a1 = 6 := Int32.toInt_inj.mp (by rw [show (6 : Int32).toInt = 6 from by decide]; omega)
                        exact pm_letter_L27 a2 (by omega) (by omega)
                      · rcases j_ilt a1.toInt 8 with h_a1_8 | h_a1_8
                        · obtain rfl : a1 = 7 := Int32.toInt_inj.mp (by rw [show (7 : Int32).toInt = 7 from by decide]; omega)
                          exact pm_letter_L28 a2 (by omega) (by omega)
                        · rcases j_ilt a1.toInt 9 with h_a1_9 | h_a1_9
                          · obtain rfl : a1 = 8 := Int32.toInt_inj.mp (by rw [show (8 : Int32).toInt = 8 from by decide]; omega)
                            exact pm_letter_L29 a2 (by omega) (by omega)
                          · rcases j_ilt a1.toInt 10 with h_a1_10 | h_a1_10
                            · obtain rfl : a1 = 9 := Int32.toInt_inj.mp (by rw [show (9 : Int32).toInt = 9 from by decide]; omega)
                              exact pm_letter_L30 a2 (by omega) (by omega)
                            · rcases j_ilt a1.toInt 11 with h_a1_11 | h_a1_11
                              · obtain rfl : a1 = 10 := Int32.toInt_inj.mp (by rw [show (10 : Int32).toInt = 10 from by decide]; omega)
                                exact pm_letter_L31 a2 (by omega) (by omega)
                              · rcases j_ilt a1.toInt 12 with h_a1_12 | h_a1_12
                                · obtain rfl : a1 = 11 := Int32.toInt_inj.mp (by rw [show (11 : Int32).toInt = 11 from by decide]; omega)
                                  exact pm_letter_L32 a2 (by omega) (by omega)
                                · rcases j_ilt a1.toInt 13 with h_a1_13 | h_a1_13
                                  · obtain rfl : a1 = 12 := Int32.toInt_inj.mp (by rw [show (12 : Int32).toInt = 12 from by decide]; omega)
                                    exact pm_letter_L33 a2 (by omega) (by omega)
                                  · rcases j_ilt a1.toInt 14 with h_a1_14 | h_a1_14
                                    · obtain rfl : a1 = 13 := Int32.toInt_inj.mp (by rw [show (13 : Int32).toInt = 13 from by decide]; omega)
                                      exact pm_letter_L34 a2 (by omega) (by omega)
                                    · rcases j_ilt a1.toInt 15 with h_a1_15 | h_a1_15
                                      · obtain rfl : a1 = 14 := Int32.toInt_inj.mp (by rw [show (14 : Int32).toInt = 14 from by decide]; omega)
                                        exact pm_letter_L35 a2 (by omega) (by omega)
                                      · rcases j_ilt a1.toInt 16 with h_a1_16 | h_a1_16
                                        · obtain rfl : a1 = 15 := Int32.toInt_inj.mp (by rw [show (15 : Int32).toInt = 15 from by decide]; omega)
                                          exact pm_letter_L36 a2 (by omega) (by omega)
                                        · rcases j_ilt a1.toInt 17 with h_a1_17 | h_a1_17
                                          · obtain rfl : a1 = 16 := Int32.toInt_inj.mp (by rw [show (16 : Int32).toInt = 16 from by decide]; omega)
                                            exact pm_letter_L37 a2 (by omega) (by omega)
                                          · obtain rfl : a1 = 17 := Int32.toInt_inj.mp (by rw [show (17 : Int32).toInt = 17 from by decide]; omega)
                                            exact pm_letter_L38 a2 (by omega) (by omega)
        · rcases j_ilt a1.toInt 19 with h_a1_19 | h_a1_19
          · obtain rfl : a1 = 18 := Int32.toInt_inj.mp (by rw [show (18 : Int32).toInt = 18 from by decide]; omega)
            exact pm_letter_L39 a2 (by omega) (by omega)
          · rcases j_ilt a1.toInt 20 with h_a1_20 | h_a1_20
            · obtain rfl : a1 = 19 := Int32.toInt_inj.mp (by rw [show (19 : Int32).toInt = 19 from by decide]; omega)
              exact pm_letter_L40 a2 (by omega) (by omega)
            · rcases j_ilt a1.toInt 21 with h_a1_21 | h_a1_21
              · obtain rfl : a1 = 20 := Int32.toInt_inj.mp (by rw [show (20 : Int32).toInt = 20 from by decide]; omega)
                exact pm_letter_L41 a2 (by omega) (by omega)
              · rcases j_ilt a1.toInt 22 with h_a1_22 | h_a1_22
                · obtain rfl : a1 = 21 := Int32.toInt_inj.mp (by rw [show (21 : Int32).toInt = 21 from by decide]; omega)
                  exact pm_letter_L42 a2 (by omega) (by omega)
                · rcases j_ilt a1.toInt 23 with h_a1_23 | h_a1_23
                  · obtain rfl : a1 = 22 := Int32.toInt_inj.mp (by rw [show (22 : Int32).toInt = 22 from by decide]; omega)
                    exact pm_letter_L43 a2 (by omega) (by omega)
                  · rcases j_ilt a1.toInt 24 with h_a1_24 | h_a1_24
                    · obtain rfl : a1 = 23 := Int32.toInt_inj.mp (by rw [show (23 : Int32).toInt = 23 from by decide]; omega)
                      exact pm_letter_L44 a2 (by omega) (by omega)
                    · obtain rfl : a1 = 24 := Int32.toInt_inj.mp (by rw [show (24 : Int32).toInt = 24 from by decide]; omega)
                      exact pm_letter_L45 a2 (by omega) (by omega)
      · rcases j_ilt a2.toInt 6 with h_a2_6 | h_a2_6
        · rcases j_ilt a1.toInt 1 with h_a1_1 | h_a1_1
          · obtain rfl : a1 = 0 := Int32.toInt_inj.mp (by rw [show (0 : Int32).toInt = 0 from by decide]; omega)
            exact pm_letter_L46 a2 (by omega) (by omega)
          · rcases j_ilt a1.toInt 2 with h_a1_2 | h_a1_2
            · obtain rfl : a1 = 1 := Int32.toInt_inj.mp (by rw [show (1 : Int32).toInt = 1 from by decide]; omega)
              exact pm_letter_L47 a2 (by omega) (by omega)
            · rcases j_ilt a1.toInt 3 with h_a1_3 | h_a1_3
              · obtain rfl : a1 = 2 := Int32.toInt_inj.mp (by rw [show (2 : Int32).toInt = 2 from by decide]; omega)
                exact pm_letter_L48 a2 (by omega) (by omega)
              · rcases j_ilt a1.toInt 4 with h_a1_4 | h_a1_4
                · obtain rfl : a1 = 3 := Int32.toInt_inj.mp (by rw [show (3 : Int32).toInt = 3 from by decide]; omega)
                  exact pm_letter_L49 a2 (by omega) (by omega)
                · rcases j_ilt a1.toInt 5 with h_a1_5 | h_a1_5
                  · obtain rfl : a1 = 4 := Int32.toInt_inj.mp (by rw [show (4 : Int32).toInt = 4 from by decide]; omega)
                    exact pm_letter_L50 a2 (by omega) (by omega)
                  · rcases j_ilt a1.toInt 6 with h_a1_6 | h_a1_6
                    · obtain rfl : a1 = 5 := Int32.toInt_inj.mp (by rw [show (5 : Int32).toInt = 5 from by decide]; omega)
                      exact pm_letter_L51 a2 (by omega) (by omega)
                    · rcases j_ilt a1.toInt 7 with h_a1_7 | h_a1_7
                      · obtain rfl : a1 = 6 := Int32.toInt_inj.mp (by rw [show (6 : Int32).toInt = 6 from by decide]; omega)
                        exact pm_letter_L52 a2 (by omega) (by omega)
                      · rcases j_ilt a1.toInt 8 with h_a1_8 | h_a1_8
                        · obtain rfl : a1 = 7 := Int32.toInt_inj.mp (by rw [show (7 : Int32).toInt = 7 from by decide]; omega)
                          exact pm_letter_L53 a2 (by omega) (by omega)
                        · rcases j_ilt a1.toInt 9 with h_a1_9 | h_a1_9
                          · obtain rfl : a1 = 8 := Int32.toInt_inj.mp (by rw [show (8 : Int32).toInt = 8 from by decide]; omega)
                            exact pm_letter_L54 a2 (by omega) (by omega)
                          · rcases j_ilt a1.toInt 10 with h_a1_10 | h_a1_10
                            · obtain rfl : a1 = 9 := Int32.toInt_inj.mp (by rw [show (9 : Int32).toInt = 9 from by decide]; omega)
                              exact pm_letter_L55 a2 (by omega) (by omega)
                            · rcases j_ilt a1.toInt 11 with h_a1_11 | h_a1_11
                              · obtain rfl : a1 = 10 := Int32.toInt_inj.mp (by rw [show (10 : Int32).toInt = 10 from by decide]; omega)
                                exact pm_letter_L56 a2 (by omega) (by omega)
                              · rcases j_ilt a1.toInt 12 with h_a1_12 | h_a1_12
                                · obtain rfl : a1 = 11 := Int32.toInt_inj.mp (by rw [show (11 : Int32).toInt = 11 from by decide]; omega)
                                  exact pm_letter_L57 a2 (by omega) (by omega)
                                · rcases j_ilt a1.toInt 13 with h_a1_13 | h_a1_13
                                  · obtain rfl : a1 = 12 := Int32.toInt_inj.mp (by rw [show (12 : Int32).toInt = 12 from by decide]; omega)
                                    exact pm_letter_L58 a2 (by omega) (by omega)
                                  · rcases j_ilt a1.toInt 14 with h_a1_14 | h_a1_14
                                    · obtain rfl : a1 = 13 := Int32.toInt_inj.mp (by rw [show (13 : Int32).toInt = 13 from by decide]; omega)
                                      exact pm_letter_L59 a2 (by omega) (by omega)
                                    · rcases j_ilt a1.toInt 15 with h_a1_15 | h_a1_15
                                      · obtain rfl : a1 = 14 := Int32.toInt_inj.mp (by rw [show (14 : Int32).toInt = 14 from by decide]; omega)
                                        exact pm_letter_L60 a2 (by omega) (by omega)
                                      · rcases j_ilt a1.toInt 16 with h_a1_16 | h_a1_16
                                        · obtain rfl : a1 = 15 := Int32.toInt_inj.mp (by rw [show (15 : Int32).toInt = 15 from by decide]; omega)
                                          exact pm_letter_L61 a2 (by omega) (by omega)
                                        · rcases j_ilt a1.toInt 17 with h_a1_17 | h_a1_17
                                          · obtain rfl : a1 = 16 := Int32.toInt_inj.mp (by rw [show (16 : Int32).toInt = 16 from by decide]; omega)
                                            exact pm_letter_L62 a2 (by omega) (by omega)
                                          · rcases j_ilt a1.toInt 18 with h_a1_18 | h_a1_18
                                            · obtain rfl : a1 = 17 := Int32.toInt_inj.mp (by rw [show (17 : Int32).toInt = 17 from by decide]; omega)
                                              exact pm_letter_L63 a2 (by omega) (by omega)
                                            · rcases j_ilt a1.toInt 19 with h_a1_19 | h_a1_19
                                              · obtain rfl : a1 = 18 := Int32.toInt_inj.mp (by rw [show (18 : Int32).toInt = 18 from by decide]; omega)
                                                exact pm_letter_L64 a2 (by omega) (by omega)
                                              · rcases j_ilt a1.toInt 20 with h_a1_20 | h_a1_20
                                                · obtain rfl : a1 = 19 := Int32.toInt_inj.mp (by rw [show (19 : Int32).toInt = 19 from by decide]; omega)
                                                  exact pm_letter_L65 a2 (by omega) (by omega)
                                                · rcases j_ilt a1.toInt 21 with h_a1_21 | h_a1_21
                                                  · obtain rfl : a1 = 20 := Int32.toInt_inj.mp (by rw [show (20 : Int32).toInt = 20 from by decide]; omega)
                                                    exact pm_letter_L66 a2 (by omega) (by omega)
                                                  · rcases j_ilt a1.toInt 22 with h_a1_22 | h_a1_22
                                                    · obtain rfl : a1 = 21 := Int32.toInt_inj.mp (by rw [show (21 : Int32).toInt = 21 from by decide]; omega)
                                                      exact pm_letter_L67 a2 (by omega) (by omega)
                                                    · rcases j_ilt a1.toInt 23 with h_a1_23 | h_a1_23
                                                      · obtain rfl : a1 = 22 := Int32.toInt_inj.mp (by rw [show (22 : Int32).toInt = 22 from by decide]; omega)
                                                        exact pm_letter_L68 a2 (by omega) (by omega)
                                                      · rcases j_ilt a1.toInt 24 with h_a1_24 | h_a1_24
                                                        · obtain rfl : a1 = 23 := Int32.toInt_inj.mp (by rw [show (23 : Int32).toInt = 23 from by decide]; omega)
                                                          exact pm_letter_L69 a2 (by omega) (by omega)
                                                        · obtain rfl : a1 = 24 := Int32.toInt_inj.mp (by rw [show (24 : Int32).toInt = 24 from by decide]; omega)
                                                          exact pm_letter_L70 a2 (by omega) (by omega)
        · rcases j_ilt a1.toInt 18 with h_a1_18 | h_a1_18
          · rcases j_ilt a1.toInt 1 with h_a1_1 | h_a1_1
            · obtain rfl : a1 = 0 := Int32.toInt_inj.mp (by rw [show (0 : Int32).toInt = 0 from by decide]; omega)
              exact pm_letter_L71 a2 (by omega) (by omega)
            · rcases j_ilt a1.toInt 2 with h_a1_2 | h_a1_2
              · obtain rfl : a1 = 1 := Int32.toInt_inj.mp (by rw [show (1 : Int32).toInt = 1 from by decide]; omega)
                exact pm_letter_L72 a2 (by omega) (by omega)
              · rcases j_ilt a1.toInt 3 with h_a1_3 | h_a1_3
                · obtain rfl : a1 = 2 := Int32.toInt_inj.mp (by rw [show (2 : Int32).toInt = 2 from by decide]; omega)
                  exact pm_letter_L73 a2 (by omega) (by omega)
                · rcases j_ilt a1.toInt 4 with h_a1_4 | h_a1_4
                  · obtain rfl : a1 = 3 := Int32.toInt_inj.mp (by rw [show (3 : Int32).toInt = 3 from by decide]; omega)
                    exact pm_letter_L74 a2 (by omega) (by omega)
                  · rcases j_ilt a1.toInt 5 with h_a1_5 | h_a1_5
                    · obtain rfl : a1 = 4 := Int32.toInt_inj.mp (by rw [show (4 : Int32).toInt = 4 from by decide]; omega)
                      exact pm_letter_L75 a2 (by omega) (by omega)
                    · rcases j_ilt a1.toInt 6 with h_a1_6 | h_a1_6
                      · obtain rfl : a1 = 5 := Int32.toInt_inj.mp (by rw [show (5 : Int32).toInt = 5 from by decide]; omega)
                        exact pm_letter_L76 a2 (by omega) (by omega)
                      · rcases j_ilt a1.toInt 7 with h_a1_7 | h_a1_7
                        · obtain rfl : a1 = 6 := Int32.toInt_inj.mp (by rw [show (6 : Int32).toInt = 6 from by decide]; omega)
                          exact pm_letter_L77 a2 (by omega) (by omega)
                        · rcases j_ilt a1.toInt 8 with h_a1_8 | h_a1_8
                          · obtain rfl : a1 = 7 := Int32.toInt_inj.mp (by rw [show (7 : Int32).toInt = 7 from by decide]; omega)
                            exact pm_letter_L78 a2 (by omega) (by omega)
                          · rcases j_ilt a1.toInt 9 with h_a1_9 | h_a1_9
                            · obtain rfl : a1 = 8 := Int32.toInt_inj.mp (by rw [show (8 : Int32).toInt = 8 from by decide]; omega)
                              exact pm_letter_L79 a2 (by omega) (by omega)
                            · rcases j_ilt a1.toInt 10 with h_a1_10 | h_a1_10
                              · obtain rfl : a1 = 9 := Int32.toInt_inj.mp (by rw [show (9 : Int32).toInt = 9 from by decide]; omega)
                                exact pm_letter_L80 a2 (by omega) (by omega)
                              · rcases j_ilt a1.toInt 11 with h_a1_11 | h_a1_11
                                · obtain rfl : a1 = 10 := Int32.toInt_inj.mp (by rw [show (10 : Int32).toInt = 10 from by decide]; omega)
                                  exact pm_letter_L81 a2 (by omega) (by omega)
                                · rcases j_ilt a1.toInt 12 with h_a1_12 | h_a1_12
                                  · obtain rfl : a1 = 11 := Int32.toInt_inj.mp (by rw [show (11 : Int32).toInt = 11 from by decide]; omega)
                                    exact pm_letter_L82 a2 (by omega) (by omega)
                                  · rcases j_ilt a1.toInt 13 with h_a1_13 | h_a1_13
                                    · obtain rfl : a1 = 12 := Int32.toInt_inj.mp (by rw [show (12 : Int32).toInt = 12 from by decide]; omega)
                                      exact pm_letter_L83 a2 (by omega) (by omega)
                                    · rcases j_ilt a1.toInt 14 with h_a1_14 | h_a1_14
                                      · obtain rfl : a1 = 13 := Int32.toInt_inj.mp (by rw [show (13 : Int32).toInt = 13 from by decide]; omega)
                                        exact pm_letter_L84 a2 (by omega) (by omega)
                                      · rcases j_ilt a1.toInt 15 with h_a1_15 | h_a1_15
                                        · obtain rfl : a1 = 14 := Int32.toInt_inj.mp (by rw [show (14 : Int32).toInt = 14 from by decide]; omega)
                                          exact pm_letter_L85 a2 (by omega) (by omega)
                                        · rcases j_ilt a1.toInt 16 with h_a1_16 | h_a1_16
                                          · obtain rfl : a1 = 15 := Int32.toInt_inj.mp (by rw [show (15 : Int32).toInt = 15 from by decide]; omega)
                                            exact pm_letter_L86 a2 (by omega) (by omega)
                                          · rcases j_ilt a1.toInt 17 with h_a1_17 | h_a1_17
                                            · obtain rfl : a1 = 16 := Int32.toInt_inj.mp (by rw [show (16 : Int32).toInt = 16 from by decide]; omega)
                                              exact pm_letter_L87 a2 (by omega) (by omega)
                                            · obtain rfl : a1 = 17 := Int32.toInt_inj.mp (by rw [show (17 : Int32).toInt = 17 from by decide]; omega)
                                              exact pm_letter_L88 a2 (by omega) (by omega)
          · rcases j_ilt a1.toInt 19 with h_a1_19 | h_a1_19
            · obtain rfl : a1 = 18 := Int32.toInt_inj.mp (by rw [show (18 : Int32).toInt = 18 from by decide]; omega)
              exact pm_letter_L89 a2 (by omega) (by omega)
            · rcases j_ilt a1.toInt 20 with h_a1_20 | h_a1_20
              · obtain rfl : a1 = 19 := Int32.toInt_inj.mp (by rw [show (19 : Int32).toInt = 19 from by decide]; omega)
                exact pm_letter_L90 a2 (by omega) (by omega)
              · rcases j_ilt a1.toInt 21 with h_a1_21 | h_a1_21
                · obtain rfl : a1 = 20 := Int32.toInt_inj.mp (by rw [show (20 : Int32).toInt = 20 from by decide]; omega)
                  exact pm_letter_L91 a2 (by omega) (by omega)
                · rcases j_ilt a1.toInt 22 with h_a1_22 | h_a1_22
                  · obtain rfl : a1 = 21 := Int32.toInt_inj.mp (by rw [show (21 : Int32).toInt = 21 from by decide]; omega)
                    exact pm_letter_L92 a2 (by omega) (by omega)
                  · rcases j_ilt a1.toInt 23 with h_a1_23 | h_a1_23
                    · obtain rfl : a1 = 22 := Int32.toInt_inj.mp (by rw [show (22 : Int32).toInt = 22 from by decide]; omega)
                      exact pm_letter_L93 a2 (by omega) (by omega)
                    · rcases j_ilt a1.toInt 24 with h_a1_24 | h_a1_24
                      · obtain rfl : a1 = 23 := Int32.toInt_inj.mp (by rw [show (23 : Int32).toInt = 23 from by decide]; omega)
                        exact pm_letter_L94 a2 (by omega) (by omega)
                      · obtain rfl : a1 = 24 := Int32.toInt_inj.mp (by rw [show (24 : Int32).toInt = 24 from by decide]; omega)
                        exact pm_letter_L95 a2 (by omega) (by omega)
    · exact pm_letter_L96 a1 a2 (by omega) (by omega) (by omega) (by omega)
