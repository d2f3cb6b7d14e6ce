/-! LAWFUL ROWS END WITH A STOP. -/
noncomputable def tz (σ : jM) (k : Int) : Int := if k = 0 then 22 else σ.1 149 (k - 1).toNat
theorem tz_0 {σ : jM} : tz σ 0 = 22 := if_pos rfl
theorem tz_s {σ : jM} {k : Int} (h : σ.1 149 k.toNat = 22) (h0 : 0 ≤ k) : tz σ (k + 1) = 22 := by
  unfold tz
  rw [if_neg (by omega), show k + 1 - 1 = k by omega, h]
theorem tl_tz {σ : jM} {k : Int} (h : σ.1 117 49 = k) : tl σ = tz σ k := by
  unfold tl tz
  rw [h]
