/-! A QUESTION READ: more of it. -/
theorem ws_b {σ : jM} (h1 : 1 ≤ σ.1 117 89) (h : tq σ ≤ 11 ∨ tq σ = 23 ∨ tq σ = 24) : 1 ≤ ws σ := by
  have a := ws_top h1
  have b := (wgt_e (c := tq σ)).1 h
  have c := wsf_nn (f := fun j => σ.1 177 j) (n := (σ.1 117 89 - 1).toNat)
  omega
theorem wk_b {σ : jM} (h : wk σ = 1) (h1 : 1 ≤ σ.1 117 89) (h2 : tq σ ≤ 4) : σ.1 117 91 < σ.1 117 89 := by
  have a := (wk_tq h h1).1
  omega
theorem sq_w {σ : jM} (h : sq σ = 1) : 1 ≤ σ.1 117 89 := by
  have a := @sq_0 σ
  omega
theorem sq_n {σ : jM} (h : sq σ = 0) (h1 : 1 ≤ σ.1 117 89) : tq σ ≠ 25 := fun e => by
  have a := sq_tq h1 e
  omega
