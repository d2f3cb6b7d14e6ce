set_option maxHeartbeats 4000000 in
theorem pm_fewest_0 {σ : jM} (I : Inv σ) (x1 : Int32) : PQ 124 294 [iV 0, .int x1] σ := by
  obtain ⟨hg, hsp, t1, t2, t3, t4, r3, r4, r5, hk, h0, h1, ht⟩ := I
  obtain ⟨z1, b1, rfl⟩ := m_of x1
  obtain ⟨n1, v1, τ, j1, w1, rfl, c1, g1, f1⟩ := m_124_r9 σ hg 0 (by omega) (by omega) z1 b1.1 b1.2 hsp 500 20000 (by decide) (by decide)
  have ea33_5 := f1.at 33 5 rfl
  have ea39_5 := f1.at 39 5 rfl
  have ea58_5 := f1.at 58 5 rfl
  have ea64_5 := f1.at 64 5 rfl
  have ea10_1 := f1.at 10 1 rfl
  have ea117_1 := f1.at 117 1 rfl
  have ea143_3 := f1.at 143 3 rfl
  have ea143_4 := f1.at 143 4 rfl
  have ea143_5 := f1.at 143 5 rfl
  have eakp := kp_fr f1 (fun _ => rfl) (fun _ => rfl)
  have eal0 := l0_fr f1 rfl (fun _ => rfl)
  have eal1 := l1_fr f1 rfl (fun _ => rfl)
  have eas4 := f1.ar 9 4 rfl
  have eas5 := f1.ar 9 5 rfl
  obtain ⟨n2, v2, ρ, j2, w2, rfl, c2, g2, f2⟩ := m_294 τ g1 0 (by omega) (by omega) z1 b1.1 b1.2 (by omega) (by omega) 500 20000 (by decide) (by decide)
  have eb33_5 := f2.at 33 5 rfl
  have eb39_5 := f2.at 39 5 rfl
  have eb58_5 := f2.at 58 5 rfl
  have eb64_5 := f2.at 64 5 rfl
  have eb10_1 := f2.at 10 1 rfl
  have eb117_1 := f2.at 117 1 rfl
  have eb143_3 := f2.at 143 3 rfl
  have eb143_4 := f2.at 143 4 rfl
  have eb143_5 := f2.at 143 5 rfl
  have ebkp := kp_fr f2 (fun _ => rfl) (fun _ => rfl)
  have ebl0 := l0_fr f2 rfl (fun _ => rfl)
  have ebl1 := l1_fr f2 rfl (fun _ => rfl)
  have ebs4 := f2.ar 9 4 rfl
  have ebs5 := f2.ar 9 5 rfl
  exact ⟨n1, n2, _, _, τ, ρ, j1, j2, g2, (SPK_cg ebs4 ebs5 (SPK_cg eas4 eas5 hsp)), by omega, by omega, by omega, by omega, by omega, by omega, by omega, by omega, by omega, by omega, by omega⟩
set_option maxHeartbeats 4000000 in
theorem pm_fewest_1 {σ : jM} (I : Inv σ) (x1 : Int32) : PQ 124 294 [iV 1, .int x1] σ := by
  obtain ⟨hg, hsp, t1, t2, t3, t4, r3, r4, r5, hk, h0, h1, ht⟩ := I
  obtain ⟨z1, b1, rfl⟩ := m_of x1
  obtain ⟨n1, v1, τ, j1, w1, rfl, c1, g1, f1⟩ := m_124_r9 σ hg 1 (by omega) (by omega) z1 b1.1 b1.2 hsp 500 20000 (by decide) (by decide)
  have ea33_5 := f1.at 33 5 rfl
  have ea39_5 := f1.at 39 5 rfl
  have ea58_5 := f1.at 58 5 rfl
  have ea64_5 := f1.at 64 5 rfl
  have ea10_1 := f1.at 10 1 rfl
  have ea117_1 := f1.at 117 1 rfl
  have ea143_3 := f1.at 143 3 rfl
  have ea143_4 := f1.at 143 4 rfl
  have ea143_5 := f1.at 143 5 rfl
  have eakp := kp_fr f1 (fun _ => rfl) (fun _ => rfl)
  have eal0 := l0_fr f1 rfl (fun _ => rfl)
  have eal1 := l1_fr f1 rfl (fun _ => rfl)
  have eas4 := f1.ar 9 4 rfl
  have eas5 := f1.ar 9 5 rfl
  obtain ⟨n2, v2, ρ, j2, w2, rfl, c2, g2, f2⟩ := m_294 τ g1 1 (by omega) (by omega) z1 b1.1 b1.2 (by omega) (by omega) 500 20000 (by decide) (by decide)
  have eb33_5 := f2.at 33 5 rfl
  have eb39_5 := f2.at 39 5 rfl
  have eb58_5 := f2.at 58 5 rfl
  have eb64_5 := f2.at 64 5 rfl
  have eb10_1 := f2.at 10 1 rfl
  have eb117_1 := f2.at 117 1 rfl
  have eb143_3 := f2.at 143 3 rfl
  have eb143_4 := f2.at 143 4 rfl
  have eb143_5 := f2.at 143 5 rfl
  have ebkp := kp_fr f2 (fun _ => rfl) (fun _ => rfl)
  have ebl0 := l0_fr f2 rfl (fun _ => rfl)
  have ebl1 := l1_fr f2 rfl (fun _ => rfl)
  have ebs4 := f2.ar 9 4 rfl
  have ebs5 := f2.ar 9 5 rfl
  exact ⟨n1, n2, _, _, τ, ρ, j1, j2, g2, (SPK_cg ebs4 ebs5 (SPK_cg eas4 eas5 hsp)), by omega, by omega, by omega, by omega, by omega, by omega, by omega, by omega, by omega, by omega, by omega⟩
set_option maxHeartbeats 4000000 in
theorem pm_shorts {σ : jM} (I : Inv σ)  : PQ 140 297 [] σ := by
  obtain ⟨hg, hsp, t1, t2, t3, t4, r3, r4, r5, hk, h0, h1, ht⟩ := I
  obtain ⟨n1, v1, τ, j1, w1, rfl, c1, g1, f1⟩ := m_140_r9 σ hg  hsp 500 20000 (by decide) (by decide)
  have ea33_5 := f1.at 33 5 rfl
  have ea39_5 := f1.at 39 5 rfl
  have ea58_5 := f1.at 58 5 rfl
  have ea64_5 := f1.at 64 5 rfl
  have ea10_1 := f1.at 10 1 rfl
  have ea117_1 := f1.at 117 1 rfl
  have ea143_3 := f1.at 143 3 rfl
  have ea143_4 := f1.at 143 4 rfl
  have ea143_5 := f1.at 143 5 rfl
  have eakp := kp_fr f1 (fun _ => rfl) (fun _ => rfl)
  have eal0 := l0_fr f1 rfl (fun _ => rfl)
  have eal1 := l1_fr f1 rfl (fun _ => rfl)
  have eas4 := f1.ar 9 4 rfl
  have eas5 := f1.ar 9 5 rfl
  obtain ⟨n2, v2, _, j2, w2, rfl, c2, rfl⟩ := m_297 τ g1   500 20000 (by decide) (by decide)
  exact ⟨n1, n2, _, _, τ, τ, j1, j2, g1, (SPK_cg eas4 eas5 hsp), by omega, by omega, by omega, by omega, by omega, by omega, by omega, by omega, by omega, by omega, by omega⟩
set_option maxHeartbeats 4000000 in
theorem pm_brief {σ : jM} (I : Inv σ) (x0 : Int32) (x1 : Int32) : PQ 142 298 [.int x0, .int x1] σ := by
  obtain ⟨hg, hsp, t1, t2, t3, t4, r3, r4, r5, hk, h0, h1, ht⟩ := I
  obtain ⟨z0, b0, rfl⟩ := m_of x0
  obtain ⟨z1, b1, rfl⟩ := m_of x1
  obtain ⟨n1, v1, τ, j1, w1, rfl, c1, g1, f1⟩ := m_142_r9 σ hg z0 b0.1 b0.2 z1 b1.1 b1.2 hsp 500 20000 (by decide) (by decide)
  have ea33_5 := f1.at 33 5 rfl
  have ea39_5 := f1.at 39 5 rfl
  have ea58_5 := f1.at 58 5 rfl
  have ea64_5 := f1.at 64 5 rfl
  have ea10_1 := f1.at 10 1 rfl
  have ea117_1 := f1.at 117 1 rfl
  have ea143_3 := f1.at 143 3 rfl
  have ea143_4 := f1.at 143 4 rfl
  have ea143_5 := f1.at 143 5 rfl
  have eakp := kp_fr f1 (fun _ => rfl) (fun _ => rfl)
  have eal0 := l0_fr f1 rfl (fun _ => rfl)
  have eal1 := l1_fr f1 rfl (fun _ => rfl)
  have eas4 := f1.ar 9 4 rfl
  have eas5 := f1.ar 9 5 rfl
  obtain ⟨n2, v2, _, j2, w2, rfl, c2, rfl⟩ := m_298 τ g1 z0 b0.1 b0.2 z1 b1.1 b1.2 (by omega) 500 20000 (by decide) (by decide)
  exact ⟨n1, n2, _, _, τ, τ, j1, j2, g1, (SPK_cg eas4 eas5 hsp), by omega, by omega, by omega, by omega, by omega, by omega, by omega, by omega, by omega, by omega, by omega⟩
set_option maxHeartbeats 4000000 in
theorem pm_way {σ : jM} (I : Inv σ)  : PQ 144 301 [] σ := by
  obtain ⟨hg, hsp, t1, t2, t3, t4, r3, r4, r5, hk, h0, h1, ht⟩ := I
  obtain ⟨n1, v1, τ, j1, w1, rfl, c1, g1, f1⟩ := m_144_r9 σ hg  hsp 500 20000 (by decide) (by decide)
  have ea33_5 := f1.at 33 5 rfl
  have ea39_5 := f1.at 39 5 rfl
  have ea58_5 := f1.at 58 5 rfl
  have ea64_5 := f1.at 64 5 rfl
  have ea10_1 := f1.at 10 1 rfl
  have ea117_1 := f1.at 117 1 rfl
  have ea143_3 := f1.at 143 3 rfl
  have ea143_4 := f1.at 143 4 rfl
  have ea143_5 := f1.at 143 5 rfl
  have eakp := kp_fr f1 (fun _ => rfl) (fun _ => rfl)
  have eal0 := l0_fr f1 rfl (fun _ => rfl)
  have eal1 := l1_fr f1 rfl (fun _ => rfl)
  have eas4 := f1.ar 9 4 rfl
  have eas5 := f1.ar 9 5 rfl
  obtain ⟨n2, v2, ρ, j2, w2, rfl, c2, g2, f2⟩ := m_301 τ g1  (by omega) 500 20000 (by decide) (by decide)
  have eb33_5 := f2.at 33 5 rfl
  have eb39_5 := f2.at 39 5 rfl
  have eb58_5 := f2.at 58 5 rfl
  have eb64_5 := f2.at 64 5 rfl
  have eb10_1 := f2.at 10 1 rfl
  have eb117_1 := f2.at 117 1 rfl
  have eb143_3 := f2.at 143 3 rfl
  have eb143_4 := f2.at 143 4 rfl
  have eb143_5 := f2.at 143 5 rfl
  have ebkp := kp_fr f2 (fun _ => rfl) (fun _ => rfl)
  have ebl0 := l0_fr f2 rfl (fun _ => rfl)
  have ebl1 := l1_fr f2 rfl (fun _ => rfl)
  have ebs4 := f2.ar 9 4 rfl
  have ebs5 := f2.ar 9 5 rfl
  exact ⟨n1, n2, _, _, τ, ρ, j1, j2, g2, (SPK_cg ebs4 ebs5 (SPK_cg eas4 eas5 hsp)), by omega, by omega, by omega, by omega, by omega, by omega, by omega, by omega, by omega, by omega, by omega⟩
set_option maxHeartbeats 4000000 in
theorem pm_hole_0 {σ : jM} (I : Inv σ) (x1 : Int32) : PQ 151 308 [iV 0, .int x1] σ := by
  obtain ⟨hg, hsp, t1, t2, t3, t4, r3, r4, r5, hk, h0, h1, ht⟩ := I
  obtain ⟨z1, b1, rfl⟩ := m_of x1
  obtain ⟨n1, v1, _, j1, w1, rfl, c1, rfl⟩ := m_151_r9 σ hg 0 (by omega) (by omega) z1 b1.1 b1.2  500 20000 (by decide) (by decide)
  obtain ⟨n2, v2, ρ, j2, w2, rfl, c2, g2, f2⟩ := m_308 σ hg 0 (by omega) (by omega) z1 b1.1 b1.2 (by omega) (by omega) 500 20000 (by decide) (by decide)
  have eb33_5 := f2.at 33 5 rfl
  have eb39_5 := f2.at 39 5 rfl
  have eb58_5 := f2.at 58 5 rfl
  have eb64_5 := f2.at 64 5 rfl
  have eb10_1 := f2.at 10 1 rfl
  have eb117_1 := f2.at 117 1 rfl
  have eb143_3 := f2.at 143 3 rfl
  have eb143_4 := f2.at 143 4 rfl
  have eb143_5 := f2.at 143 5 rfl
  have ebkp := kp_fr f2 (fun _ => rfl) (fun _ => rfl)
  have ebl0 := l0_fr f2 rfl (fun _ => rfl)
  have ebl1 := l1_fr f2 rfl (fun _ => rfl)
  have ebs4 := f2.ar 9 4 rfl
  have ebs5 := f2.ar 9 5 rfl
  exact ⟨n1, n2, _, _, σ, ρ, j1, j2, g2, (SPK_cg ebs4 ebs5 hsp), by omega, by omega, by omega, by omega, by omega, by omega, by omega, by omega, by omega, by omega, by omega⟩
set_option maxHeartbeats 4000000 in
theorem pm_hole_1 {σ : jM} (I : Inv σ) (x1 : Int32) : PQ 151 308 [iV 1, .int x1] σ := by
  obtain ⟨hg, hsp, t1, t2, t3, t4, r3, r4, r5, hk, h0, h1, ht⟩ := I
  obtain ⟨z1, b1, rfl⟩ := m_of x1
  obtain ⟨n1, v1, _, j1, w1, rfl, c1, rfl⟩ := m_151_r9 σ hg 1 (by omega) (by omega) z1 b1.1 b1.2  500 20000 (by decide) (by decide)
  obtain ⟨n2, v2, ρ, j2, w2, rfl, c2, g2, f2⟩ := m_308 σ hg 1 (by omega) (by omega) z1 b1.1 b1.2 (by omega) (by omega) 500 20000 (by decide) (by decide)
  have eb33_5 := f2.at 33 5 rfl
  have eb39_5 := f2.at 39 5 rfl
  have eb58_5 := f2.at 58 5 rfl
  have eb64_5 := f2.at 64 5 rfl
  have eb10_1 := f2.at 10 1 rfl
  have eb117_1 := f2.at 117 1 rfl
  have eb143_3 := f2.at 143 3 rfl
  have eb143_4 := f2.at 143 4 rfl
  have eb143_5 := f2.at 143 5 rfl
  have ebkp := kp_fr f2 (fun _ => rfl) (fun _ => rfl)
  have ebl0 := l0_fr f2 rfl (fun _ => rfl)
  have ebl1 := l1_fr f2 rfl (fun _ => rfl)
  have ebs4 := f2.ar 9 4 rfl
  have ebs5 := f2.ar 9 5 rfl
  exact ⟨n1, n2, _, _, σ, ρ, j1, j2, g2, (SPK_cg ebs4 ebs5 hsp), by omega, by omega, by omega, by omega, by omega, by omega, by omega, by omega, by omega, by omega, by omega⟩
set_option maxHeartbeats 4000000 in
theorem pm_parts {σ : jM} (I : Inv σ)  : PQ 153 310 [] σ := by
  obtain ⟨hg, hsp, t1, t2, t3, t4, r3, r4, r5, hk, h0, h1, ht⟩ := I
  obtain ⟨n1, v1, _, j1, w1, rfl, c1, rfl⟩ := m_153_r9 σ hg   500 20000 (by decide) (by decide)
  obtain ⟨n2, v2, ρ, j2, w2, rfl, c2, g2, f2⟩ := m_310 σ hg  (by omega) (by omega) 500 20000 (by decide) (by decide)
  have eb33_5 := f2.at 33 5 rfl
  have eb39_5 := f2.at 39 5 rfl
  have eb58_5 := f2.at 58 5 rfl
  have eb64_5 := f2.at 64 5 rfl
  have eb10_1 := f2.at 10 1 rfl
  have eb117_1 := f2.at 117 1 rfl
  have eb143_3 := f2.at 143 3 rfl
  have eb143_4 := f2.at 143 4 rfl
  have eb143_5 := f2.at 143 5 rfl
  have ebkp := kp_fr f2 (fun _ => rfl) (fun _ => rfl)
  have ebl0 := l0_fr f2 rfl (fun _ => rfl)
  have ebl1 := l1_fr f2 rfl (fun _ => rfl)
  have ebs4 := f2.ar 9 4 rfl
  have ebs5 := f2.ar 9 5 rfl
  exact ⟨n1, n2, _, _, σ, ρ, j1, j2, g2, (SPK_cg ebs4 ebs5 hsp), by omega, by omega, by omega, by omega, by omega, by omega, by omega, by omega, by omega, by omega, by omega⟩
set_option maxHeartbeats 4000000 in
theorem pm_worth_0 {σ : jM} (I : Inv σ) (x1 : Int32) : PQ 154 311 [iV 0, .int x1] σ := by
  obtain ⟨hg, hsp, t1, t2, t3, t4, r3, r4, r5, hk, h0, h1, ht⟩ := I
  obtain ⟨z1, b1, rfl⟩ := m_of x1
  obtain ⟨n1, v1, _, j1, w1, rfl, c1, rfl⟩ := m_154_r9 σ hg 0 (by omega) (by omega) z1 b1.1 b1.2 hsp 500 20000 (by decide) (by decide)
  obtain ⟨n2, v2, ρ, j2, w2, rfl, c2, g2, f2⟩ := m_311 σ hg 0 (by omega) (by omega) z1 b1.1 b1.2 (by omega) (by omega) (by omega) 500 20000 (by decide) (by decide)
  have eb33_5 := f2.at 33 5 rfl
  have eb39_5 := f2.at 39 5 rfl
  have eb58_5 := f2.at 58 5 rfl
  have eb64_5 := f2.at 64 5 rfl
  have eb10_1 := f2.at 10 1 rfl
  have eb117_1 := f2.at 117 1 rfl
  have eb143_3 := f2.at 143 3 rfl
  have eb143_4 := f2.at 143 4 rfl
  have eb143_5 := f2.at 143 5 rfl
  have ebkp := kp_fr f2 (fun _ => rfl) (fun _ => rfl)
  have ebl0 := l0_fr f2 rfl (fun _ => rfl)
  have ebl1 := l1_fr f2 rfl (fun _ => rfl)
  have ebs4 := f2.ar 9 4 rfl
  have ebs5 := f2.ar 9 5 rfl
  exact ⟨n1, n2, _, _, σ, ρ, j1, j2, g2, (SPK_cg ebs4 ebs5 hsp), by omega, by omega, by omega, by omega, by omega, by omega, by omega, by omega, by omega, by omega, by omega⟩
set_option maxHeartbeats 4000000 in
theorem pm_worth_1 {σ : jM} (I : Inv σ) (x1 : Int32) : PQ 154 311 [iV 1, .int x1] σ := by
  obtain ⟨hg, hsp, t1, t2, t3, t4, r3, r4, r5, hk, h0, h1, ht⟩ := I
  obtain ⟨z1, b1, rfl⟩ := m_of x1
  obtain ⟨n1, v1, _, j1, w1, rfl, c1, rfl⟩ := m_154_r9 σ hg 1 (by omega) (by omega) z1 b1.1 b1.2 hsp 500 20000 (by decide) (by decide)
  obtain ⟨n2, v2, ρ, j2, w2, rfl, c2, g2, f2⟩ := m_311 σ hg 1 (by omega) (by omega) z1 b1.1 b1.2 (by omega) (by omega) (by omega) 500 20000 (by decide) (by decide)
  have eb33_5 := f2.at 33 5 rfl
  have eb39_5 := f2.at 39 5 rfl
  have eb58_5 := f2.at 58 5 rfl
  have eb64_5 := f2.at 64 5 rfl
  have eb10_1 := f2.at 10 1 rfl
  have eb117_1 := f2.at 117 1 rfl
  have eb143_3 := f2.at 143 3 rfl
  have eb143_4 := f2.at 143 4 rfl
  have eb143_5 := f2.at 143 5 rfl
  have ebkp := kp_fr f2 (fun _ => rfl) (fun _ => rfl)
  have ebl0 := l0_fr f2 rfl (fun _ => rfl)
  have ebl1 := l1_fr f2 rfl (fun _ => rfl)
  have ebs4 := f2.ar 9 4 rfl
  have ebs5 := f2.ar 9 5 rfl
  exact ⟨n1, n2, _, _, σ, ρ, j1, j2, g2, (SPK_cg ebs4 ebs5 hsp), by omega, by omega, by omega, by omega, by omega, by omega, by omega, by omega, by omega, by omega, by omega⟩
set_option maxHeartbeats 4000000 in
theorem pm_votes_0 {σ : jM} (I : Inv σ)  : PQ 157 314 [iV 0] σ := by
  obtain ⟨hg, hsp, t1, t2, t3, t4, r3, r4, r5, hk, h0, h1, ht⟩ := I
  obtain ⟨n1, v1, τ, j1, w1, rfl, c1, g1, f1⟩ := m_157_r9 σ hg 0 (by omega) (by omega) hsp 500 20000 (by decide) (by decide)
  have ea33_5 := f1.at 33 5 rfl
  have ea39_5 := f1.at 39 5 rfl
  have ea58_5 := f1.at 58 5 rfl
  have ea64_5 := f1.at 64 5 rfl
  have ea10_1 := f1.at 10 1 rfl
  have ea117_1 := f1.at 117 1 rfl
  have ea143_3 := f1.at 143 3 rfl
  have ea143_4 := f1.at 143 4 rfl
  have ea143_5 := f1.at 143 5 rfl
  have eakp := kp_fr f1 (fun _ => rfl) (fun _ => rfl)
  have eal0 := l0_fr f1 rfl (fun _ => rfl)
  have eal1 := l1_fr f1 rfl (fun _ => rfl)
  have eas4 := f1.ar 9 4 rfl
  have eas5 := f1.ar 9 5 rfl
  obtain ⟨n2, v2, ρ, j2, w2, rfl, c2, g2, f2⟩ := m_314 τ g1 0 (by omega) (by omega) (by omega) (by omega) (by omega) 500 20000 (by decide) (by decide)
  have eb33_5 := f2.at 33 5 rfl
  have eb39_5 := f2.at 39 5 rfl
  have eb58_5 := f2.at 58 5 rfl
  have eb64_5 := f2.at 64 5 rfl
  have eb10_1 := f2.at 10 1 rfl
  have eb117_1 := f2.at 117 1 rfl
  have eb143_3 := f2.at 143 3 rfl
  have eb143_4 := f2.at 143 4 rfl
  have eb143_5 := f2.at 143 5 rfl
  have ebkp := kp_fr f2 (fun _ => rfl) (fun _ => rfl)
  have ebl0 := l0_fr f2 rfl (fun _ => rfl)
  have ebl1 := l1_fr f2 rfl (fun _ => rfl)
  have ebs4 := f2.ar 9 4 rfl
  have ebs5 := f2.ar 9 5 rfl
  exact ⟨n1, n2, _, _, τ, ρ, j1, j2, g2, (SPK_cg ebs4 ebs5 (SPK_cg eas4 eas5 hsp)), by omega, by omega, by omega, by omega, by omega, by omega, by omega, by omega, by omega, by omega, by omega⟩
set_option maxHeartbeats 4000000 in
theorem pm_votes_1 {σ : jM} (I : Inv σ)  : PQ 157 314 [iV 1] σ := by
  obtain ⟨hg, hsp, t1, t2, t3, t4, r3, r4, r5, hk, h0, h1, ht⟩ := I
  obtain ⟨n1, v1, τ, j1, w1, rfl, c1, g1, f1⟩ := m_157_r9 σ hg 1 (by omega) (by omega) hsp 500 20000 (by decide) (by decide)
  have ea33_5 := f1.at 33 5 rfl
  have ea39_5 := f1.at 39 5 rfl
  have ea58_5 := f1.at 58 5 rfl
  have ea64_5 := f1.at 64 5 rfl
  have ea10_1 := f1.at 10 1 rfl
  have ea117_1 := f1.at 117 1 rfl
  have ea143_3 := f1.at 143 3 rfl
  have ea143_4 := f1.at 143 4 rfl
  have ea143_5 := f1.at 143 5 rfl
  have eakp := kp_fr f1 (fun _ => rfl) (fun _ => rfl)
  have eal0 := l0_fr f1 rfl (fun _ => rfl)
  have eal1 := l1_fr f1 rfl (fun _ => rfl)
  have eas4 := f1.ar 9 4 rfl
  have eas5 := f1.ar 9 5 rfl
  obtain ⟨n2, v2, ρ, j2, w2, rfl, c2, g2, f2⟩ := m_314 τ g1 1 (by omega) (by omega) (by omega) (by omega) (by omega) 500 20000 (by decide) (by decide)
  have eb33_5 := f2.at 33 5 rfl
  have eb39_5 := f2.at 39 5 rfl
  have eb58_5 := f2.at 58 5 rfl
  have eb64_5 := f2.at 64 5 rfl
  have eb10_1 := f2.at 10 1 rfl
  have eb117_1 := f2.at 117 1 rfl
  have eb143_3 := f2.at 143 3 rfl
  have eb143_4 := f2.at 143 4 rfl
  have eb143_5 := f2.at 143 5 rfl
  have ebkp := kp_fr f2 (fun _ => rfl) (fun _ => rfl)
  have ebl0 := l0_fr f2 rfl (fun _ => rfl)
  have ebl1 := l1_fr f2 rfl (fun _ => rfl)
  have ebs4 := f2.ar 9 4 rfl
  have ebs5 := f2.ar 9 5 rfl
  exact ⟨n1, n2, _, _, τ, ρ, j1, j2, g2, (SPK_cg ebs4 ebs5 (SPK_cg eas4 eas5 hsp)), by omega, by omega, by omega, by omega, by omega, by omega, by omega, by omega, by omega, by omega, by omega⟩
set_option maxHeartbeats 4000000 in
theorem pm_rest {σ : jM} (I : Inv σ)  : PQ 160 316 [] σ := by
  obtain ⟨hg, hsp, t1, t2, t3, t4, r3, r4, r5, hk, h0, h1, ht⟩ := I
  obtain ⟨n1, v1, τ, j1, w1, rfl, c1, g1, f1⟩ := m_160_r9 σ hg  hsp 500 20000 (by decide) (by decide)
  have ea33_5 := f1.at 33 5 rfl
  have ea39_5 := f1.at 39 5 rfl
  have ea58_5 := f1.at 58 5 rfl
  have ea64_5 := f1.at 64 5 rfl
  have ea10_1 := f1.at 10 1 rfl
  have ea117_1 := f1.at 117 1 rfl
  have ea143_3 := f1.at 143 3 rfl
  have ea143_4 := f1.at 143 4 rfl
  have ea143_5 := f1.at 143 5 rfl
  have eakp := kp_fr f1 (fun _ => rfl) (fun _ => rfl)
  have eal0 := l0_fr f1 rfl (fun _ => rfl)
  have eal1 := l1_fr f1 rfl (fun _ => rfl)
  have eas4 := f1.ar 9 4 rfl
  have eas5 := f1.ar 9 5 rfl
  obtain ⟨n2, v2, ρ, j2, w2, rfl, c2, g2, f2⟩ := m_316 τ g1  (by omega) (by omega) (by omega) 500 20000 (by decide) (by decide)
  have eb33_5 := f2.at 33 5 rfl
  have eb39_5 := f2.at 39 5 rfl
  have eb58_5 := f2.at 58 5 rfl
  have eb64_5 := f2.at 64 5 rfl
  have eb10_1 := f2.at 10 1 rfl
  have eb117_1 := f2.at 117 1 rfl
  have eb143_3 := f2.at 143 3 rfl
  have eb143_4 := f2.at 143 4 rfl
  have eb143_5 := f2.at 143 5 rfl
  have ebkp := kp_fr f2 (fun _ => rfl) (fun _ => rfl)
  have ebl0 := l0_fr f2 rfl (fun _ => rfl)
  have ebl1 := l1_fr f2 rfl (fun _ => rfl)
  have ebs4 := f2.ar 9 4 rfl
  have ebs5 := f2.ar 9 5 rfl
  exact ⟨n1, n2, _, _, τ, ρ, j1, j2, g2, (SPK_cg ebs4 ebs5 (SPK_cg eas4 eas5 hsp)), by omega, by omega, by omega, by omega, by omega, by omega, by omega, by omega, by omega, by omega, by omega⟩
set_option maxHeartbeats 4000000 in
theorem pm_spring {σ : jM} (I : Inv σ) (x0 : Int32) : PQ 163 319 [.int x0] σ := by
  obtain ⟨hg, hsp, t1, t2, t3, t4, r3, r4, r5, hk, h0, h1, ht⟩ := I
  obtain ⟨z0, b0, rfl⟩ := m_of x0
  obtain ⟨n1, v1, τ, j1, w1, rfl, c1, g1, f1⟩ := m_163_r9 σ hg z0 b0.1 b0.2 hsp 500 20000 (by decide) (by decide)
  have ea33_5 := f1.at 33 5 rfl
  have ea39_5 := f1.at 39 5 rfl
  have ea58_5 := f1.at 58 5 rfl
  have ea64_5 := f1.at 64 5 rfl
  have ea10_1 := f1.at 10 1 rfl
  have ea117_1 := f1.at 117 1 rfl
  have ea143_3 := f1.at 143 3 rfl
  have ea143_4 := f1.at 143 4 rfl
  have ea143_5 := f1.at 143 5 rfl
  have eakp := kp_fr f1 (fun _ => rfl) (fun _ => rfl)
  have eal0 := l0_fr f1 rfl (fun _ => rfl)
  have eal1 := l1_fr f1 rfl (fun _ => rfl)
  have eas4 := f1.ar 9 4 rfl
  have eas5 := f1.ar 9 5 rfl
  obtain ⟨n2, v2, ρ, j2, w2, rfl, c2, g2, f2, p20, p21, p22⟩ := m_319 τ g1 z0 b0.1 b0.2 (by omega) (by omega) (by omega) (by omega) 500 20000 (by decide) (by decide)
  have eb33_5 := f2.at 33 5 rfl
  have eb39_5 := f2.at 39 5 rfl
  have eb58_5 := f2.at 58 5 rfl
  have eb64_5 := f2.at 64 5 rfl
  have eb10_1 := f2.at 10 1 rfl
  have eb117_1 := f2.at 117 1 rfl
  have eb143_3 := f2.at 143 3 rfl
  have eb143_4 := f2.at 143 4 rfl
  have eb143_5 := f2.at 143 5 rfl
  have ebs4 := f2.ar 9 4 rfl
  have ebs5 := f2.ar 9 5 rfl
  exact ⟨n1, n2, _, _, τ, ρ, j1, j2, g2, (SPK_cg ebs4 ebs5 (SPK_cg eas4 eas5 hsp)), by omega, by omega, by omega, by omega, by omega, by omega, by omega, by omega, by omega, by omega, by omega⟩
set_option maxHeartbeats 4000000 in
theorem pm_fitting {σ : jM} (I : Inv σ) (x0 : Int32) : PQ 164 320 [.int x0] σ := by
  obtain ⟨hg, hsp, t1, t2, t3, t4, r3, r4, r5, hk, h0, h1, ht⟩ := I
  obtain ⟨z0, b0, rfl⟩ := m_of x0
  obtain ⟨n1, v1, τ, j1, w1, rfl, c1, g1, f1⟩ := m_164_r9 σ hg z0 b0.1 b0.2 hsp 500 20000 (by decide) (by decide)
  have ea33_5 := f1.at 33 5 rfl
  have ea39_5 := f1.at 39 5 rfl
  have ea58_5 := f1.at 58 5 rfl
  have ea64_5 := f1.at 64 5 rfl
  have ea10_1 := f1.at 10 1 rfl
  have ea117_1 := f1.at 117 1 rfl
  have ea143_3 := f1.at 143 3 rfl
  have ea143_4 := f1.at 143 4 rfl
  have ea143_5 := f1.at 143 5 rfl
  have eakp := kp_fr f1 (fun _ => rfl) (fun _ => rfl)
  have eal0 := l0_fr f1 rfl (fun _ => rfl)
  have eal1 := l1_fr f1 rfl (fun _ => rfl)
  have eas4 := f1.ar 9 4 rfl
  have eas5 := f1.ar 9 5 rfl
  obtain ⟨n2, v2, _, j2, w2, rfl, c2, rfl⟩ := m_320 τ g1 z0 b0.1 b0.2 (by omega) 500 20000 (by decide) (by decide)
  exact ⟨n1, n2, _, _, τ, τ, j1, j2, g1, (SPK_cg eas4 eas5 hsp), by omega, by omega, by omega, by omega, by omega, by omega, by omega, by omega, by omega, by omega, by omega⟩
set_option maxHeartbeats 4000000 in
theorem pm_judged {σ : jM} (I : Inv σ)  : PQ 166 321 [] σ := by
  obtain ⟨hg, hsp, t1, t2, t3, t4, r3, r4, r5, hk, h0, h1, ht⟩ := I
  obtain ⟨n1, v1, _, j1, w1, rfl, c1, rfl⟩ := m_166_r9 σ hg  hsp (by omega) (by omega) (by omega) (by omega) 500 20000 (by decide) (by decide)
  obtain ⟨n2, v2, ρ, j2, w2, rfl, c2, g2, f2⟩ := m_321 σ hg  (by omega) (by omega) 500 20000 (by decide) (by decide)
  have eb33_5 := f2.at 33 5 rfl
  have eb39_5 := f2.at 39 5 rfl
  have eb58_5 := f2.at 58 5 rfl
  have eb64_5 := f2.at 64 5 rfl
  have eb10_1 := f2.at 10 1 rfl
  have eb117_1 := f2.at 117 1 rfl
  have eb143_3 := f2.at 143 3 rfl
  have eb143_4 := f2.at 143 4 rfl
  have eb143_5 := f2.at 143 5 rfl
  have ebkp := kp_fr f2 (fun _ => rfl) (fun _ => rfl)
  have ebl0 := l0_fr f2 rfl (fun _ => rfl)
  have ebl1 := l1_fr f2 rfl (fun _ => rfl)
  have ebs4 := f2.ar 9 4 rfl
  have ebs5 := f2.ar 9 5 rfl
  exact ⟨n1, n2, _, _, σ, ρ, j1, j2, g2, (SPK_cg ebs4 ebs5 hsp), by omega, by omega, by omega, by omega, by omega, by omega, by omega, by omega, by omega, by omega, by omega⟩
set_option maxHeartbeats 4000000 in
theorem pm_seed {σ : jM} (I : Inv σ) (x0 : Int32) : PQE 168 322 [.int x0] σ := by
  obtain ⟨hg, hsp, t1, t2, t3, t4, r3, r4, r5, hk, h0, h1, ht⟩ := I
  obtain ⟨z0, b0, rfl⟩ := m_of x0
  obtain ⟨n1, v1, τ, j1, w1, rfl, c1, g1, f1, p10, p11⟩ := m_168_r9_e σ hg z0 b0.1 b0.2  500 20000 (by decide) (by decide)
  have ea33_5 := f1.at 33 5 rfl
  have ea39_5 := f1.at 39 5 rfl
  have ea58_5 := f1.at 58 5 rfl
  have ea64_5 := f1.at 64 5 rfl
  have ea10_1 := f1.at 10 1 rfl
  have ea117_1 := f1.at 117 1 rfl
  have ea143_3 := f1.at 143 3 rfl
  have ea143_4 := f1.at 143 4 rfl
  have ea143_5 := f1.at 143 5 rfl
  have eakp := kp_fr f1 (fun _ => rfl) (fun _ => rfl)
  have eal0 := l0_fr f1 rfl (fun _ => rfl)
  have eal1 := l1_fr f1 rfl (fun _ => rfl)
  have eas4 := f1.ar 9 4 rfl
  have eas5 := f1.ar 9 5 rfl
  obtain ⟨n2, v2, ρ, j2, w2, rfl, c2, g2, f2, p20, p21⟩ := m_322_e τ g1 z0 b0.1 b0.2  500 20000 (by decide) (by decide)
  have eb33_5 := f2.at 33 5 rfl
  have eb39_5 := f2.at 39 5 rfl
  have eb58_5 := f2.at 58 5 rfl
  have eb64_5 := f2.at 64 5 rfl
  have eb10_1 := f2.at 10 1 rfl
  have eb117_1 := f2.at 117 1 rfl
  have eb143_3 := f2.at 143 3 rfl
  have eb143_4 := f2.at 143 4 rfl
  have eb143_5 := f2.at 143 5 rfl
  have ebkp := kp_fr f2 (fun _ => rfl) (fun _ => rfl)
  have ebl0 := l0_fr f2 rfl (fun _ => rfl)
  have ebl1 := l1_fr f2 rfl (fun _ => rfl)
  have ebs4 := f2.ar 9 4 rfl
  have ebs5 := f2.ar 9 5 rfl
  obtain rfl : w1 = w2 := by omega
  exact ⟨n1, n2, _, τ, ρ, j1, j2, g2, (SPK_cg ebs4 ebs5 (SPK_cg eas4 eas5 hsp)), by omega, by omega, by omega, by omega, by omega, by omega, by omega, by omega, by omega, by omega, by omega⟩
set_option maxHeartbeats 4000000 in
theorem pm_stroke {σ : jM} (I : Inv σ)  : PQ 169 323 [] σ := by
  obtain ⟨hg, hsp, t1, t2, t3, t4, r3, r4, r5, hk, h0, h1, ht⟩ := I
  obtain ⟨n1, v1, τ, j1, w1, rfl, c1, g1, f1⟩ := m_169_r9 σ hg  hsp 500 20000 (by decide) (by decide)
  have ea33_5 := f1.at 33 5 rfl
  have ea39_5 := f1.at 39 5 rfl
  have ea58_5 := f1.at 58 5 rfl
  have ea64_5 := f1.at 64 5 rfl
  have ea10_1 := f1.at 10 1 rfl
  have ea117_1 := f1.at 117 1 rfl
  have ea143_3 := f1.at 143 3 rfl
  have ea143_4 := f1.at 143 4 rfl
  have ea143_5 := f1.at 143 5 rfl
  have eakp := kp_fr f1 (fun _ => rfl) (fun _ => rfl)
  have eal0 := l0_fr f1 rfl (fun _ => rfl)
  have eal1 := l1_fr f1 rfl (fun _ => rfl)
  have eas4 := f1.ar 9 4 rfl
  have eas5 := f1.ar 9 5 rfl
  obtain ⟨n2, v2, ρ, j2, w2, rfl, c2, g2, f2, p20, p21, p22⟩ := m_323 τ g1  (by omega) (by omega) (by omega) 500 20000 (by decide) (by decide)
  have eb33_5 := f2.at 33 5 rfl
  have eb39_5 := f2.at 39 5 rfl
  have eb58_5 := f2.at 58 5 rfl
  have eb64_5 := f2.at 64 5 rfl
  have eb10_1 := f2.at 10 1 rfl
  have eb117_1 := f2.at 117 1 rfl
  have eb143_3 := f2.at 143 3 rfl
  have eb143_4 := f2.at 143 4 rfl
  have eb143_5 := f2.at 143 5 rfl
  have ebs4 := f2.ar 9 4 rfl
  have ebs5 := f2.ar 9 5 rfl
  exact ⟨n1, n2, _, _, τ, ρ, j1, j2, g2, (SPK_cg ebs4 ebs5 (SPK_cg eas4 eas5 hsp)), by omega, by omega, by omega, by omega, by omega, by omega, by omega, by omega, by omega, by omega, by omega⟩
set_option maxHeartbeats 4000000 in
theorem pm_ask {σ : jM} (I : Inv σ)  : PQL 171 324 [] σ := by
  obtain ⟨hg, hsp, t1, t2, t3, t4, r3, r4, r5, hk, h0, h1, ht⟩ := I
  obtain ⟨n1, v1, τ, j1, w1, rfl, g1, f1, p10⟩ := m_171_r9 σ hg  hsp 500 20000 (by decide) (by decide)
  have ea33_5 := f1.at 33 5 rfl
  have ea39_5 := f1.at 39 5 rfl
  have ea58_5 := f1.at 58 5 rfl
  have ea64_5 := f1.at 64 5 rfl
  have ea117_1 := f1.at 117 1 rfl
  have ea143_3 := f1.at 143 3 rfl
  have ea143_4 := f1.at 143 4 rfl
  have ea143_5 := f1.at 143 5 rfl
  have eakp := kp_fr f1 (fun _ => rfl) (fun _ => rfl)
  have eal0 := l0_fr f1 rfl (fun _ => rfl)
  have eal1 := l1_fr f1 rfl (fun _ => rfl)
  have eas4 := f1.ar 9 4 rfl
  have eas5 := f1.ar 9 5 rfl
  obtain ⟨n2, v2, ρ, j2, w2, rfl, g2, f2, p20⟩ := m_324_z τ g1  (by omega) (by omega) 500 20000 (by decide) (by decide)
  have eb33_5 := f2.at 33 5 rfl
  have eb39_5 := f2.at 39 5 rfl
  have eb58_5 := f2.at 58 5 rfl
  have eb64_5 := f2.at 64 5 rfl
  have eb10_1 := f2.at 10 1 rfl
  have eb143_3 := f2.at 143 3 rfl
  have eb143_4 := f2.at 143 4 rfl
  have eb143_5 := f2.at 143 5 rfl
  have ebkp := kp_fr f2 (fun _ => rfl) (fun _ => rfl)
  have ebl0 := l0_fr f2 rfl (fun _ => rfl)
  have ebl1 := l1_fr f2 rfl (fun _ => rfl)
  have ebs4 := f2.ar 9 4 rfl
  have ebs5 := f2.ar 9 5 rfl
  exact ⟨n1, n2, _, _, τ, ρ, j1, j2, g2, (SPK_cg ebs4 ebs5 (SPK_cg eas4 eas5 hsp)), by omega, by omega, by omega, by omega, by omega, by omega, by omega, by omega, by omega, by omega, by omega⟩
set_option maxHeartbeats 4000000 in
theorem pm_image {σ : jM} (I : Inv σ)  : PQ 200 354 [] σ := by
  obtain ⟨hg, hsp, t1, t2, t3, t4, r3, r4, r5, hk, h0, h1, ht⟩ := I
  obtain ⟨n1, v1, τ, j1, w1, rfl, c1, g1, f1⟩ := m_200_r9 σ hg   500 20000 (by decide) (by decide)
  have ea33_5 := f1.at 33 5 rfl
  have ea39_5 := f1.at 39 5 rfl
  have ea58_5 := f1.at 58 5 rfl
  have ea64_5 := f1.at 64 5 rfl
  have ea10_1 := f1.at 10 1 rfl
  have ea117_1 := f1.at 117 1 rfl
  have ea143_3 := f1.at 143 3 rfl
  have ea143_4 := f1.at 143 4 rfl
  have ea143_5 := f1.at 143 5 rfl
  have eakp := kp_fr f1 (fun _ => rfl) (fun _ => rfl)
  have eal0 := l0_fr f1 rfl (fun _ => rfl)
  have eal1 := l1_fr f1 rfl (fun _ => rfl)
  have eas4 := f1.ar 9 4 rfl
  have eas5 := f1.ar 9 5 rfl
  obtain ⟨n2, v2, ρ, j2, w2, rfl, c2, g2, f2⟩ := m_354 τ g1   500 20000 (by decide) (by decide)
  have eb33_5 := f2.at 33 5 rfl
  have eb39_5 := f2.at 39 5 rfl
  have eb58_5 := f2.at 58 5 rfl
  have eb64_5 := f2.at 64 5 rfl
  have eb10_1 := f2.at 10 1 rfl
  have eb117_1 := f2.at 117 1 rfl
  have eb143_3 := f2.at 143 3 rfl
  have eb143_4 := f2.at 143 4 rfl
  have eb143_5 := f2.at 143 5 rfl
  have ebkp := kp_fr f2 (fun _ => rfl) (fun _ => rfl)
  have ebl0 := l0_fr f2 rfl (fun _ => rfl)
  have ebl1 := l1_fr f2 rfl (fun _ => rfl)
  have ebs4 := f2.ar 9 4 rfl
  have ebs5 := f2.ar 9 5 rfl
  exact ⟨n1, n2, _, _, τ, ρ, j1, j2, g2, (SPK_cg ebs4 ebs5 (SPK_cg eas4 eas5 hsp)), by omega, by omega, by omega, by omega, by omega, by omega, by omega, by omega, by omega, by omega, by omega⟩
set_option maxHeartbeats 4000000 in
theorem pm_octet {σ : jM} (I : Inv σ) (x0 : Int32) : PQ 205 356 [.int x0] σ := by
  obtain ⟨hg, hsp, t1, t2, t3, t4, r3, r4, r5, hk, h0, h1, ht⟩ := I
  obtain ⟨z0, b0, rfl⟩ := m_of x0
  obtain ⟨n1, v1, _, j1, w1, rfl, c1, rfl⟩ := m_205_r9 σ hg z0 b0.1 b0.2  500 20000 (by decide) (by decide)
  obtain ⟨n2, v2, _, j2, w2, rfl, c2, rfl⟩ := m_356 σ hg z0 b0.1 b0.2  500 20000 (by decide) (by decide)
  exact ⟨n1, n2, _, _, σ, σ, j1, j2, hg, hsp, by omega, by omega, by omega, by omega, by omega, by omega, by omega, by omega, by omega, by omega, by omega⟩
set_option maxHeartbeats 4000000 in
theorem pm_restore {σ : jM} (I : Inv σ)  : PQ 206 357 [] σ := by
  obtain ⟨hg, hsp, t1, t2, t3, t4, r3, r4, r5, hk, h0, h1, ht⟩ := I
  obtain ⟨n1, v1, τ, j1, w1, rfl, c1, g1, f1, p10⟩ := m_206_r9 σ hg  hsp 500 20000 (by decide) (by decide)
  have ea33_5 := f1.at 33 5 rfl
  have ea39_5 := f1.at 39 5 rfl
  have ea58_5 := f1.at 58 5 rfl
  have ea64_5 := f1.at 64 5 rfl
  have ea117_1 := f1.at 117 1 rfl
  have ea143_3 := f1.at 143 3 rfl
  have ea143_4 := f1.at 143 4 rfl
  have ea143_5 := f1.at 143 5 rfl
  have eakp := kp_fr f1 (fun _ => rfl) (fun _ => rfl)
  have eal0 := l0_fr f1 rfl (fun _ => rfl)
  have eal1 := l1_fr f1 rfl (fun _ => rfl)
  have eas4 := f1.ar 9 4 rfl
  have eas5 := f1.ar 9 5 rfl
  obtain ⟨n2, v2, ρ, j2, w2, rfl, c2, g2, f2, p20, p21, p22⟩ := m_357_z τ g1  (by omega) (by omega) 500 20000 (by decide) (by decide)
  have eb33_5 := f2.at 33 5 rfl
  have eb39_5 := f2.at 39 5 rfl
  have eb58_5 := f2.at 58 5 rfl
  have eb64_5 := f2.at 64 5 rfl
  have eb10_1 := f2.at 10 1 rfl
  have eb143_3 := f2.at 143 3 rfl
  have eb143_4 := f2.at 143 4 rfl
  have eb143_5 := f2.at 143 5 rfl
  have ebkp := kp_fr f2 (fun _ => rfl) (fun _ => rfl)
  have ebs4 := f2.ar 9 4 rfl
  have ebs5 := f2.ar 9 5 rfl
  exact ⟨n1, n2, _, _, τ, ρ, j1, j2, g2, (SPK_cg ebs4 ebs5 (SPK_cg eas4 eas5 hsp)), by omega, by omega, by omega, by omega, by omega, by omega, by omega, by omega, by omega, by omega, by omega⟩
set_option maxHeartbeats 4000000 in
theorem pm_status {σ : jM} (I : Inv σ) (x0 : Int32) : PQ 210 359 [.int x0] σ := by
  obtain ⟨hg, hsp, t1, t2, t3, t4, r3, r4, r5, hk, h0, h1, ht⟩ := I
  obtain ⟨z0, b0, rfl⟩ := m_of x0
  obtain ⟨n1, v1, _, j1, w1, rfl, c1, rfl⟩ := m_210_r9 σ hg z0 b0.1 b0.2  500 20000 (by decide) (by decide)
  obtain ⟨n2, v2, _, j2, w2, rfl, c2, rfl⟩ := m_359 σ hg z0 b0.1 b0.2  500 20000 (by decide) (by decide)
  exact ⟨n1, n2, _, _, σ, σ, j1, j2, hg, hsp, by omega, by omega, by omega, by omega, by omega, by omega, by omega, by omega, by omega, by omega, by omega⟩
