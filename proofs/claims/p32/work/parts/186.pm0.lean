set_option maxHeartbeats 4000000 in
theorem pm_feed {σ : jM} (I : Inv σ) (x0 : Int32) (x1 : Int32) (x2 : Int32) (x3 : Int32) (x4 : Int32) : PQ 24 212 [.int x0, .int x1, .int x2, .int x3, .int x4] σ := by
  obtain ⟨hg, hsp, t1, t2, t3, t4, r3, r4, r5, hk, h0, h1, ht⟩ := I
  obtain ⟨z0, b0, rfl⟩ := m_of x0
  obtain ⟨z1, b1, rfl⟩ := m_of x1
  obtain ⟨z2, b2, rfl⟩ := m_of x2
  obtain ⟨z3, b3, rfl⟩ := m_of x3
  obtain ⟨z4, b4, rfl⟩ := m_of x4
  obtain ⟨n1, v1, τ, j1, w1, rfl, c1, g1, f1, p10, p11⟩ := m_24_r9 σ hg z0 b0.1 b0.2 z1 b1.1 b1.2 z2 b2.1 b2.2 z3 b3.1 b3.2 z4 b4.1 b4.2  500 20000 (by decide) (by decide)
  have ea33_5 := f1.at 33 5 rfl
  have ea39_5 := f1.at 39 5 rfl
  have ea58_5 := f1.at 58 5 rfl
  have ea64_5 := f1.at 64 5 rfl
  have ea117_1 := f1.at 117 1 rfl
  have ea143_3 := f1.at 143 3 rfl
  have ea143_4 := f1.at 143 4 rfl
  have ea143_5 := f1.at 143 5 rfl
  have eakp := kp_fr f1 (fun _ => rfl) (fun _ => rfl)
  have eal0 := l0_fr f1 rfl (fun _ => rfl)
  have eal1 := l1_fr f1 rfl (fun _ => rfl)
  have eas4 := f1.ar 9 4 rfl
  have eas5 := f1.ar 9 5 rfl
  obtain ⟨n2, v2, ρ, j2, w2, rfl, c2, g2, f2, p20, p21⟩ := m_212_z τ g1 z0 b0.1 b0.2 z1 b1.1 b1.2 z2 b2.1 b2.2 z3 b3.1 b3.2 z4 b4.1 b4.2  500 20000 (by decide) (by decide)
  have eb33_5 := f2.at 33 5 rfl
  have eb39_5 := f2.at 39 5 rfl
  have eb58_5 := f2.at 58 5 rfl
  have eb64_5 := f2.at 64 5 rfl
  have eb10_1 := f2.at 10 1 rfl
  have eb143_3 := f2.at 143 3 rfl
  have eb143_4 := f2.at 143 4 rfl
  have eb143_5 := f2.at 143 5 rfl
  have ebkp := kp_fr f2 (fun _ => rfl) (fun _ => rfl)
  have ebl0 := l0_fr f2 rfl (fun _ => rfl)
  have ebl1 := l1_fr f2 rfl (fun _ => rfl)
  have ebs4 := f2.ar 9 4 rfl
  have ebs5 := f2.ar 9 5 rfl
  exact ⟨n1, n2, _, _, τ, ρ, j1, j2, g2, (SPK_cg ebs4 ebs5 (SPK_cg eas4 eas5 hsp)), by omega, by omega, by omega, by omega, by omega, by omega, by omega, by omega, by omega, by omega, by omega⟩
set_option maxHeartbeats 4000000 in
theorem pm_end {σ : jM} (I : Inv σ) (x0 : Int32) : PQ 27 213 [.int x0] σ := by
  obtain ⟨hg, hsp, t1, t2, t3, t4, r3, r4, r5, hk, h0, h1, ht⟩ := I
  obtain ⟨z0, b0, rfl⟩ := m_of x0
  obtain ⟨n1, v1, τ, j1, w1, rfl, c1, g1, f1, p10, p11⟩ := m_27_r9 σ hg z0 b0.1 b0.2  500 20000 (by decide) (by decide)
  have ea33_5 := f1.at 33 5 rfl
  have ea39_5 := f1.at 39 5 rfl
  have ea58_5 := f1.at 58 5 rfl
  have ea64_5 := f1.at 64 5 rfl
  have ea117_1 := f1.at 117 1 rfl
  have ea143_3 := f1.at 143 3 rfl
  have ea143_4 := f1.at 143 4 rfl
  have ea143_5 := f1.at 143 5 rfl
  have eakp := kp_fr f1 (fun _ => rfl) (fun _ => rfl)
  have eal0 := l0_fr f1 rfl (fun _ => rfl)
  have eal1 := l1_fr f1 rfl (fun _ => rfl)
  have eas4 := f1.ar 9 4 rfl
  have eas5 := f1.ar 9 5 rfl
  obtain ⟨n2, v2, ρ, j2, w2, rfl, c2, g2, f2, p20, p21⟩ := m_213_z τ g1 z0 b0.1 b0.2  500 20000 (by decide) (by decide)
  have eb33_5 := f2.at 33 5 rfl
  have eb39_5 := f2.at 39 5 rfl
  have eb58_5 := f2.at 58 5 rfl
  have eb64_5 := f2.at 64 5 rfl
  have eb10_1 := f2.at 10 1 rfl
  have eb143_3 := f2.at 143 3 rfl
  have eb143_4 := f2.at 143 4 rfl
  have eb143_5 := f2.at 143 5 rfl
  have ebkp := kp_fr f2 (fun _ => rfl) (fun _ => rfl)
  have ebl0 := l0_fr f2 rfl (fun _ => rfl)
  have ebl1 := l1_fr f2 rfl (fun _ => rfl)
  have ebs4 := f2.ar 9 4 rfl
  have ebs5 := f2.ar 9 5 rfl
  exact ⟨n1, n2, _, _, τ, ρ, j1, j2, g2, (SPK_cg ebs4 ebs5 (SPK_cg eas4 eas5 hsp)), by omega, by omega, by omega, by omega, by omega, by omega, by omega, by omega, by omega, by omega, by omega⟩
set_option maxHeartbeats 4000000 in
theorem pm_tongue {σ : jM} (I : Inv σ)  : PQ 28 214 [] σ := by
  obtain ⟨hg, hsp, t1, t2, t3, t4, r3, r4, r5, hk, h0, h1, ht⟩ := I
  obtain ⟨n1, v1, τ, j1, w1, rfl, c1, g1, f1, p10, p11, p12, p13, p14, p15⟩ := m_28_r9 σ hg  hsp (by omega) (by omega) (by omega) (by omega) 500 20000 (by decide) (by decide)
  have ea117_1 := f1.at 117 1 rfl
  have ea143_3 := f1.at 143 3 rfl
  have ea143_4 := f1.at 143 4 rfl
  have ea143_5 := f1.at 143 5 rfl
  have eakp := kp_fr f1 (fun _ => rfl) (fun _ => rfl)
  have eal0 := l0_fr f1 rfl (fun _ => rfl)
  have eal1 := l1_fr f1 rfl (fun _ => rfl)
  obtain ⟨n2, v2, ρ, j2, w2, rfl, c2, g2, f2, p20, p21, p22, p23, p24, p25, p26⟩ := m_214_z τ g1  (by omega) (by omega) (by omega) (by omega) (by omega) (by omega) 500 20000 (by decide) (by decide)
  have eb33_5 := f2.at 33 5 rfl
  have eb39_5 := f2.at 39 5 rfl
  have eb58_5 := f2.at 58 5 rfl
  have eb64_5 := f2.at 64 5 rfl
  have eb10_1 := f2.at 10 1 rfl
  have ebkp := kp_fr f2 (fun _ => rfl) (fun _ => rfl)
  have ebs4 := f2.ar 9 4 rfl
  have ebs5 := f2.ar 9 5 rfl
  exact ⟨n1, n2, _, _, τ, ρ, j1, j2, g2, (SPK_cg ebs4 ebs5 p10), by omega, by omega, by omega, by omega, by omega, by omega, by omega, by omega, by omega, by omega, by omega⟩
set_option maxHeartbeats 4000000 in
theorem pm_law_0 {σ : jM} (I : Inv σ)  : PQ 74 251 [iV 0] σ := by
  obtain ⟨hg, hsp, t1, t2, t3, t4, r3, r4, r5, hk, h0, h1, ht⟩ := I
  obtain ⟨n1, v1, τ, j1, w1, rfl, c1, g1, f1, p10⟩ := m_74_r9 σ hg 0 (by omega) (by omega) hsp 500 20000 (by decide) (by decide)
  have ea33_5 := f1.at 33 5 rfl
  have ea39_5 := f1.at 39 5 rfl
  have ea58_5 := f1.at 58 5 rfl
  have ea64_5 := f1.at 64 5 rfl
  have ea117_1 := f1.at 117 1 rfl
  have ea143_3 := f1.at 143 3 rfl
  have ea143_4 := f1.at 143 4 rfl
  have ea143_5 := f1.at 143 5 rfl
  have eakp := kp_fr f1 (fun _ => rfl) (fun _ => rfl)
  have eal0 := l0_fr f1 rfl (fun _ => rfl)
  have eal1 := l1_fr f1 rfl (fun _ => rfl)
  have eas4 := f1.ar 9 4 rfl
  have eas5 := f1.ar 9 5 rfl
  obtain ⟨n2, v2, ρ, j2, w2, rfl, c2, g2, f2, p20, p21, p22, p23⟩ := m_251_z τ g1 0 (by omega) (by omega) (by omega) (by omega) (by omega) (by omega) (by omega) (by omega) 500 20000 (by decide) (by decide)
  have eb33_5 := f2.at 33 5 rfl
  have eb39_5 := f2.at 39 5 rfl
  have eb58_5 := f2.at 58 5 rfl
  have eb64_5 := f2.at 64 5 rfl
  have eb10_1 := f2.at 10 1 rfl
  have eb143_3 := f2.at 143 3 rfl
  have eb143_4 := f2.at 143 4 rfl
  have eb143_5 := f2.at 143 5 rfl
  have ebs4 := f2.ar 9 4 rfl
  have ebs5 := f2.ar 9 5 rfl
  exact ⟨n1, n2, _, _, τ, ρ, j1, j2, g2, (SPK_cg ebs4 ebs5 (SPK_cg eas4 eas5 hsp)), by omega, by omega, by omega, by omega, by omega, by omega, by omega, by omega, by omega, by omega, by omega⟩
set_option maxHeartbeats 4000000 in
theorem pm_law_1 {σ : jM} (I : Inv σ)  : PQ 74 251 [iV 1] σ := by
  obtain ⟨hg, hsp, t1, t2, t3, t4, r3, r4, r5, hk, h0, h1, ht⟩ := I
  obtain ⟨n1, v1, τ, j1, w1, rfl, c1, g1, f1, p10⟩ := m_74_r9 σ hg 1 (by omega) (by omega) hsp 500 20000 (by decide) (by decide)
  have ea33_5 := f1.at 33 5 rfl
  have ea39_5 := f1.at 39 5 rfl
  have ea58_5 := f1.at 58 5 rfl
  have ea64_5 := f1.at 64 5 rfl
  have ea117_1 := f1.at 117 1 rfl
  have ea143_3 := f1.at 143 3 rfl
  have ea143_4 := f1.at 143 4 rfl
  have ea143_5 := f1.at 143 5 rfl
  have eakp := kp_fr f1 (fun _ => rfl) (fun _ => rfl)
  have eal0 := l0_fr f1 rfl (fun _ => rfl)
  have eal1 := l1_fr f1 rfl (fun _ => rfl)
  have eas4 := f1.ar 9 4 rfl
  have eas5 := f1.ar 9 5 rfl
  obtain ⟨n2, v2, ρ, j2, w2, rfl, c2, g2, f2, p20, p21, p22, p23⟩ := m_251_z τ g1 1 (by omega) (by omega) (by omega) (by omega) (by omega) (by omega) (by omega) (by omega) 500 20000 (by decide) (by decide)
  have eb33_5 := f2.at 33 5 rfl
  have eb39_5 := f2.at 39 5 rfl
  have eb58_5 := f2.at 58 5 rfl
  have eb64_5 := f2.at 64 5 rfl
  have eb10_1 := f2.at 10 1 rfl
  have eb143_3 := f2.at 143 3 rfl
  have eb143_4 := f2.at 143 4 rfl
  have eb143_5 := f2.at 143 5 rfl
  have ebs4 := f2.ar 9 4 rfl
  have ebs5 := f2.ar 9 5 rfl
  exact ⟨n1, n2, _, _, τ, ρ, j1, j2, g2, (SPK_cg ebs4 ebs5 (SPK_cg eas4 eas5 hsp)), by omega, by omega, by omega, by omega, by omega, by omega, by omega, by omega, by omega, by omega, by omega⟩
set_option maxHeartbeats 4000000 in
theorem pm_fault {σ : jM} (I : Inv σ) (x0 : Int32) : PQ 89 264 [.int x0] σ := by
  obtain ⟨hg, hsp, t1, t2, t3, t4, r3, r4, r5, hk, h0, h1, ht⟩ := I
  obtain ⟨z0, b0, rfl⟩ := m_of x0
  obtain ⟨n1, v1, _, j1, w1, rfl, c1, rfl⟩ := m_89_r9 σ hg z0 b0.1 b0.2  500 20000 (by decide) (by decide)
  obtain ⟨n2, v2, _, j2, w2, rfl, c2, rfl⟩ := m_264 σ hg z0 b0.1 b0.2  500 20000 (by decide) (by decide)
  exact ⟨n1, n2, _, _, σ, σ, j1, j2, hg, hsp, by omega, by omega, by omega, by omega, by omega, by omega, by omega, by omega, by omega, by omega, by omega⟩
set_option maxHeartbeats 4000000 in
theorem pm_has {σ : jM} (I : Inv σ) (x0 : Int32) : PQ 90 265 [.int x0] σ := by
  obtain ⟨hg, hsp, t1, t2, t3, t4, r3, r4, r5, hk, h0, h1, ht⟩ := I
  obtain ⟨z0, b0, rfl⟩ := m_of x0
  obtain ⟨n1, v1, _, j1, w1, rfl, c1, rfl⟩ := m_90_r9 σ hg z0 b0.1 b0.2 hsp 500 20000 (by decide) (by decide)
  obtain ⟨n2, v2, _, j2, w2, rfl, c2, rfl⟩ := m_265 σ hg z0 b0.1 b0.2  500 20000 (by decide) (by decide)
  exact ⟨n1, n2, _, _, σ, σ, j1, j2, hg, hsp, by omega, by omega, by omega, by omega, by omega, by omega, by omega, by omega, by omega, by omega, by omega⟩
set_option maxHeartbeats 4000000 in
theorem pm_letter {σ : jM} (I : Inv σ) (x0 : Int32) (x1 : Int32) : PQ 92 266 [.int x0, .int x1] σ := by
  obtain ⟨hg, hsp, t1, t2, t3, t4, r3, r4, r5, hk, h0, h1, ht⟩ := I
  obtain ⟨z0, b0, rfl⟩ := m_of x0
  obtain ⟨z1, b1, rfl⟩ := m_of x1
  obtain ⟨n1, v1, _, j1, w1, rfl, c1, rfl⟩ := m_92_r9 σ hg z0 b0.1 b0.2 z1 b1.1 b1.2 hsp 500 20000 (by decide) (by decide)
  obtain ⟨n2, v2, _, j2, w2, rfl, c2, rfl⟩ := m_266 σ hg z0 b0.1 b0.2 z1 b1.1 b1.2  500 20000 (by decide) (by decide)
  exact ⟨n1, n2, _, _, σ, σ, j1, j2, hg, hsp, by omega, by omega, by omega, by omega, by omega, by omega, by omega, by omega, by omega, by omega, by omega⟩
set_option maxHeartbeats 4000000 in
theorem pm_sign_0 {σ : jM} (I : Inv σ) (x1 : Int32) : PQ 94 268 [iV 0, .int x1] σ := by
  obtain ⟨hg, hsp, t1, t2, t3, t4, r3, r4, r5, hk, h0, h1, ht⟩ := I
  obtain ⟨z1, b1, rfl⟩ := m_of x1
  obtain ⟨n1, v1, _, j1, w1, rfl, c1, rfl⟩ := m_94_r9 σ hg 0 (by omega) (by omega) z1 b1.1 b1.2  500 20000 (by decide) (by decide)
  obtain ⟨n2, v2, _, j2, w2, rfl, c2, rfl⟩ := m_268 σ hg 0 (by omega) (by omega) z1 b1.1 b1.2  500 20000 (by decide) (by decide)
  exact ⟨n1, n2, _, _, σ, σ, j1, j2, hg, hsp, by omega, by omega, by omega, by omega, by omega, by omega, by omega, by omega, by omega, by omega, by omega⟩
set_option maxHeartbeats 4000000 in
theorem pm_sign_1 {σ : jM} (I : Inv σ) (x1 : Int32) : PQ 94 268 [iV 1, .int x1] σ := by
  obtain ⟨hg, hsp, t1, t2, t3, t4, r3, r4, r5, hk, h0, h1, ht⟩ := I
  obtain ⟨z1, b1, rfl⟩ := m_of x1
  obtain ⟨n1, v1, _, j1, w1, rfl, c1, rfl⟩ := m_94_r9 σ hg 1 (by omega) (by omega) z1 b1.1 b1.2  500 20000 (by decide) (by decide)
  obtain ⟨n2, v2, _, j2, w2, rfl, c2, rfl⟩ := m_268 σ hg 1 (by omega) (by omega) z1 b1.1 b1.2  500 20000 (by decide) (by decide)
  exact ⟨n1, n2, _, _, σ, σ, j1, j2, hg, hsp, by omega, by omega, by omega, by omega, by omega, by omega, by omega, by omega, by omega, by omega, by omega⟩
set_option maxHeartbeats 4000000 in
theorem pm_size_0 {σ : jM} (I : Inv σ) (x1 : Int32) : PQ 95 270 [iV 0, .int x1] σ := by
  obtain ⟨hg, hsp, t1, t2, t3, t4, r3, r4, r5, hk, h0, h1, ht⟩ := I
  obtain ⟨z1, b1, rfl⟩ := m_of x1
  obtain ⟨n1, v1, _, j1, w1, rfl, c1, rfl⟩ := m_95_r9 σ hg 0 (by omega) (by omega) z1 b1.1 b1.2 hsp 500 20000 (by decide) (by decide)
  obtain ⟨n2, v2, ρ, j2, w2, rfl, c2, g2, f2⟩ := m_270_0 σ hg z1 b1.1 b1.2 (by omega) (by omega) (by omega) 500 20000 (by decide) (by decide)
  have eb33_5 := f2.at 33 5 rfl
  have eb39_5 := f2.at 39 5 rfl
  have eb58_5 := f2.at 58 5 rfl
  have eb64_5 := f2.at 64 5 rfl
  have eb10_1 := f2.at 10 1 rfl
  have eb117_1 := f2.at 117 1 rfl
  have eb143_3 := f2.at 143 3 rfl
  have eb143_4 := f2.at 143 4 rfl
  have eb143_5 := f2.at 143 5 rfl
  have ebkp := kp_fr f2 (fun _ => rfl) (fun _ => rfl)
  have ebl0 := l0_fr f2 rfl (fun _ => rfl)
  have ebl1 := l1_fr f2 rfl (fun _ => rfl)
  have ebs4 := f2.ar 9 4 rfl
  have ebs5 := f2.ar 9 5 rfl
  exact ⟨n1, n2, _, _, σ, ρ, j1, j2, g2, (SPK_cg ebs4 ebs5 hsp), by omega, by omega, by omega, by omega, by omega, by omega, by omega, by omega, by omega, by omega, by omega⟩
set_option maxHeartbeats 4000000 in
theorem pm_size_1 {σ : jM} (I : Inv σ) (x1 : Int32) : PQ 95 270 [iV 1, .int x1] σ := by
  obtain ⟨hg, hsp, t1, t2, t3, t4, r3, r4, r5, hk, h0, h1, ht⟩ := I
  obtain ⟨z1, b1, rfl⟩ := m_of x1
  obtain ⟨n1, v1, _, j1, w1, rfl, c1, rfl⟩ := m_95_r9 σ hg 1 (by omega) (by omega) z1 b1.1 b1.2 hsp 500 20000 (by decide) (by decide)
  obtain ⟨n2, v2, ρ, j2, w2, rfl, c2, g2, f2⟩ := m_270_1 σ hg z1 b1.1 b1.2 (by omega) (by omega) (by omega) 500 20000 (by decide) (by decide)
  have eb33_5 := f2.at 33 5 rfl
  have eb39_5 := f2.at 39 5 rfl
  have eb58_5 := f2.at 58 5 rfl
  have eb64_5 := f2.at 64 5 rfl
  have eb10_1 := f2.at 10 1 rfl
  have eb117_1 := f2.at 117 1 rfl
  have eb143_3 := f2.at 143 3 rfl
  have eb143_4 := f2.at 143 4 rfl
  have eb143_5 := f2.at 143 5 rfl
  have ebkp := kp_fr f2 (fun _ => rfl) (fun _ => rfl)
  have ebl0 := l0_fr f2 rfl (fun _ => rfl)
  have ebl1 := l1_fr f2 rfl (fun _ => rfl)
  have ebs4 := f2.ar 9 4 rfl
  have ebs5 := f2.ar 9 5 rfl
  exact ⟨n1, n2, _, _, σ, ρ, j1, j2, g2, (SPK_cg ebs4 ebs5 hsp), by omega, by omega, by omega, by omega, by omega, by omega, by omega, by omega, by omega, by omega, by omega⟩
set_option maxHeartbeats 4000000 in
theorem pm_forbids_0 {σ : jM} (I : Inv σ) (x1 : Int32) : PQ 99 275 [iV 0, .int x1] σ := by
  obtain ⟨hg, hsp, t1, t2, t3, t4, r3, r4, r5, hk, h0, h1, ht⟩ := I
  obtain ⟨z1, b1, rfl⟩ := m_of x1
  obtain ⟨n1, v1, _, j1, w1, rfl, c1, rfl⟩ := m_99_r9 σ hg 0 (by omega) (by omega) z1 b1.1 b1.2 hsp 500 20000 (by decide) (by decide)
  obtain ⟨n2, v2, ρ, j2, w2, rfl, c2, g2, f2⟩ := m_275_0 σ hg z1 b1.1 b1.2 (by omega) (by omega) 500 20000 (by decide) (by decide)
  have eb33_5 := f2.at 33 5 rfl
  have eb39_5 := f2.at 39 5 rfl
  have eb58_5 := f2.at 58 5 rfl
  have eb64_5 := f2.at 64 5 rfl
  have eb10_1 := f2.at 10 1 rfl
  have eb117_1 := f2.at 117 1 rfl
  have eb143_3 := f2.at 143 3 rfl
  have eb143_4 := f2.at 143 4 rfl
  have eb143_5 := f2.at 143 5 rfl
  have ebkp := kp_fr f2 (fun _ => rfl) (fun _ => rfl)
  have ebl0 := l0_fr f2 rfl (fun _ => rfl)
  have ebl1 := l1_fr f2 rfl (fun _ => rfl)
  have ebs4 := f2.ar 9 4 rfl
  have ebs5 := f2.ar 9 5 rfl
  exact ⟨n1, n2, _, _, σ, ρ, j1, j2, g2, (SPK_cg ebs4 ebs5 hsp), by omega, by omega, by omega, by omega, by omega, by omega, by omega, by omega, by omega, by omega, by omega⟩
set_option maxHeartbeats 4000000 in
theorem pm_forbids_1 {σ : jM} (I : Inv σ) (x1 : Int32) : PQ 99 275 [iV 1, .int x1] σ := by
  obtain ⟨hg, hsp, t1, t2, t3, t4, r3, r4, r5, hk, h0, h1, ht⟩ := I
  obtain ⟨z1, b1, rfl⟩ := m_of x1
  obtain ⟨n1, v1, _, j1, w1, rfl, c1, rfl⟩ := m_99_r9 σ hg 1 (by omega) (by omega) z1 b1.1 b1.2 hsp 500 20000 (by decide) (by decide)
  obtain ⟨n2, v2, ρ, j2, w2, rfl, c2, g2, f2⟩ := m_275_1 σ hg z1 b1.1 b1.2 (by omega) (by omega) 500 20000 (by decide) (by decide)
  have eb33_5 := f2.at 33 5 rfl
  have eb39_5 := f2.at 39 5 rfl
  have eb58_5 := f2.at 58 5 rfl
  have eb64_5 := f2.at 64 5 rfl
  have eb10_1 := f2.at 10 1 rfl
  have eb117_1 := f2.at 117 1 rfl
  have eb143_3 := f2.at 143 3 rfl
  have eb143_4 := f2.at 143 4 rfl
  have eb143_5 := f2.at 143 5 rfl
  have ebkp := kp_fr f2 (fun _ => rfl) (fun _ => rfl)
  have ebl0 := l0_fr f2 rfl (fun _ => rfl)
  have ebl1 := l1_fr f2 rfl (fun _ => rfl)
  have ebs4 := f2.ar 9 4 rfl
  have ebs5 := f2.ar 9 5 rfl
  exact ⟨n1, n2, _, _, σ, ρ, j1, j2, g2, (SPK_cg ebs4 ebs5 hsp), by omega, by omega, by omega, by omega, by omega, by omega, by omega, by omega, by omega, by omega, by omega⟩
set_option maxHeartbeats 4000000 in
theorem pm_borne {σ : jM} (I : Inv σ) (x0 : Int32) (x1 : Int32) : PQ 102 278 [.int x0, .int x1] σ := by
  obtain ⟨hg, hsp, t1, t2, t3, t4, r3, r4, r5, hk, h0, h1, ht⟩ := I
  obtain ⟨z0, b0, rfl⟩ := m_of x0
  obtain ⟨z1, b1, rfl⟩ := m_of x1
  obtain ⟨n1, v1, _, j1, w1, rfl, c1, rfl⟩ := m_102_r9 σ hg z0 b0.1 b0.2 z1 b1.1 b1.2 hsp 500 20000 (by decide) (by decide)
  obtain ⟨n2, v2, ρ, j2, w2, rfl, c2, g2, f2⟩ := m_278 σ hg z0 b0.1 b0.2 z1 b1.1 b1.2 (by omega) 500 20000 (by decide) (by decide)
  have eb33_5 := f2.at 33 5 rfl
  have eb39_5 := f2.at 39 5 rfl
  have eb58_5 := f2.at 58 5 rfl
  have eb64_5 := f2.at 64 5 rfl
  have eb10_1 := f2.at 10 1 rfl
  have eb117_1 := f2.at 117 1 rfl
  have eb143_3 := f2.at 143 3 rfl
  have eb143_4 := f2.at 143 4 rfl
  have eb143_5 := f2.at 143 5 rfl
  have ebkp := kp_fr f2 (fun _ => rfl) (fun _ => rfl)
  have ebl0 := l0_fr f2 rfl (fun _ => rfl)
  have ebl1 := l1_fr f2 rfl (fun _ => rfl)
  have ebs4 := f2.ar 9 4 rfl
  have ebs5 := f2.ar 9 5 rfl
  exact ⟨n1, n2, _, _, σ, ρ, j1, j2, g2, (SPK_cg ebs4 ebs5 hsp), by omega, by omega, by omega, by omega, by omega, by omega, by omega, by omega, by omega, by omega, by omega⟩
set_option maxHeartbeats 4000000 in
theorem pm_led {σ : jM} (I : Inv σ) (x0 : Int32) (x1 : Int32) : PQ 104 279 [.int x0, .int x1] σ := by
  obtain ⟨hg, hsp, t1, t2, t3, t4, r3, r4, r5, hk, h0, h1, ht⟩ := I
  obtain ⟨z0, b0, rfl⟩ := m_of x0
  obtain ⟨z1, b1, rfl⟩ := m_of x1
  obtain ⟨n1, v1, τ, j1, w1, rfl, c1, g1, f1⟩ := m_104_r9 σ hg z0 b0.1 b0.2 z1 b1.1 b1.2 hsp 500 20000 (by decide) (by decide)
  have ea33_5 := f1.at 33 5 rfl
  have ea39_5 := f1.at 39 5 rfl
  have ea58_5 := f1.at 58 5 rfl
  have ea64_5 := f1.at 64 5 rfl
  have ea10_1 := f1.at 10 1 rfl
  have ea117_1 := f1.at 117 1 rfl
  have ea143_3 := f1.at 143 3 rfl
  have ea143_4 := f1.at 143 4 rfl
  have ea143_5 := f1.at 143 5 rfl
  have eakp := kp_fr f1 (fun _ => rfl) (fun _ => rfl)
  have eal0 := l0_fr f1 rfl (fun _ => rfl)
  have eal1 := l1_fr f1 rfl (fun _ => rfl)
  have eas4 := f1.ar 9 4 rfl
  have eas5 := f1.ar 9 5 rfl
  obtain ⟨n2, v2, ρ, j2, w2, rfl, c2, g2, f2⟩ := m_279 τ g1 z0 b0.1 b0.2 z1 b1.1 b1.2 (by omega) (by omega) 500 20000 (by decide) (by decide)
  have eb33_5 := f2.at 33 5 rfl
  have eb39_5 := f2.at 39 5 rfl
  have eb58_5 := f2.at 58 5 rfl
  have eb64_5 := f2.at 64 5 rfl
  have eb10_1 := f2.at 10 1 rfl
  have eb117_1 := f2.at 117 1 rfl
  have eb143_3 := f2.at 143 3 rfl
  have eb143_4 := f2.at 143 4 rfl
  have eb143_5 := f2.at 143 5 rfl
  have ebkp := kp_fr f2 (fun _ => rfl) (fun _ => rfl)
  have ebl0 := l0_fr f2 rfl (fun _ => rfl)
  have ebl1 := l1_fr f2 rfl (fun _ => rfl)
  have ebs4 := f2.ar 9 4 rfl
  have ebs5 := f2.ar 9 5 rfl
  exact ⟨n1, n2, _, _, τ, ρ, j1, j2, g2, (SPK_cg ebs4 ebs5 (SPK_cg eas4 eas5 hsp)), by omega, by omega, by omega, by omega, by omega, by omega, by omega, by omega, by omega, by omega, by omega⟩
set_option maxHeartbeats 4000000 in
theorem pm_price {σ : jM} (I : Inv σ) (x0 : Int32) : PQ 113 284 [.int x0] σ := by
  obtain ⟨hg, hsp, t1, t2, t3, t4, r3, r4, r5, hk, h0, h1, ht⟩ := I
  obtain ⟨z0, b0, rfl⟩ := m_of x0
  obtain ⟨n1, v1, τ, j1, w1, rfl, c1, g1, f1⟩ := m_113_r9 σ hg z0 b0.1 b0.2 hsp 500 20000 (by decide) (by decide)
  have ea33_5 := f1.at 33 5 rfl
  have ea39_5 := f1.at 39 5 rfl
  have ea58_5 := f1.at 58 5 rfl
  have ea64_5 := f1.at 64 5 rfl
  have ea10_1 := f1.at 10 1 rfl
  have ea117_1 := f1.at 117 1 rfl
  have ea143_3 := f1.at 143 3 rfl
  have ea143_4 := f1.at 143 4 rfl
  have ea143_5 := f1.at 143 5 rfl
  have eakp := kp_fr f1 (fun _ => rfl) (fun _ => rfl)
  have eal0 := l0_fr f1 rfl (fun _ => rfl)
  have eal1 := l1_fr f1 rfl (fun _ => rfl)
  have eas4 := f1.ar 9 4 rfl
  have eas5 := f1.ar 9 5 rfl
  obtain ⟨n2, v2, ρ, j2, w2, rfl, c2, g2, f2⟩ := m_284 τ g1 z0 b0.1 b0.2 (by omega) (by omega) (by omega) 500 20000 (by decide) (by decide)
  have eb33_5 := f2.at 33 5 rfl
  have eb39_5 := f2.at 39 5 rfl
  have eb58_5 := f2.at 58 5 rfl
  have eb64_5 := f2.at 64 5 rfl
  have eb10_1 := f2.at 10 1 rfl
  have eb117_1 := f2.at 117 1 rfl
  have eb143_3 := f2.at 143 3 rfl
  have eb143_4 := f2.at 143 4 rfl
  have eb143_5 := f2.at 143 5 rfl
  have ebkp := kp_fr f2 (fun _ => rfl) (fun _ => rfl)
  have ebl0 := l0_fr f2 rfl (fun _ => rfl)
  have ebl1 := l1_fr f2 rfl (fun _ => rfl)
  have ebs4 := f2.ar 9 4 rfl
  have ebs5 := f2.ar 9 5 rfl
  exact ⟨n1, n2, _, _, τ, ρ, j1, j2, g2, (SPK_cg ebs4 ebs5 (SPK_cg eas4 eas5 hsp)), by omega, by omega, by omega, by omega, by omega, by omega, by omega, by omega, by omega, by omega, by omega⟩
set_option maxHeartbeats 4000000 in
theorem pm_put {σ : jM} (I : Inv σ) (x0 : Int32) (x1 : Int32) : PQ 114 286 [.int x0, .int x1] σ := by
  obtain ⟨hg, hsp, t1, t2, t3, t4, r3, r4, r5, hk, h0, h1, ht⟩ := I
  obtain ⟨z0, b0, rfl⟩ := m_of x0
  obtain ⟨z1, b1, rfl⟩ := m_of x1
  obtain ⟨n1, v1, τ, j1, w1, rfl, c1, g1, f1⟩ := m_114_r9 σ hg z0 b0.1 b0.2 z1 b1.1 b1.2 hsp 500 20000 (by decide) (by decide)
  have ea33_5 := f1.at 33 5 rfl
  have ea39_5 := f1.at 39 5 rfl
  have ea58_5 := f1.at 58 5 rfl
  have ea64_5 := f1.at 64 5 rfl
  have ea10_1 := f1.at 10 1 rfl
  have ea117_1 := f1.at 117 1 rfl
  have ea143_3 := f1.at 143 3 rfl
  have ea143_4 := f1.at 143 4 rfl
  have ea143_5 := f1.at 143 5 rfl
  have eakp := kp_fr f1 (fun _ => rfl) (fun _ => rfl)
  have eal0 := l0_fr f1 rfl (fun _ => rfl)
  have eal1 := l1_fr f1 rfl (fun _ => rfl)
  have eas4 := f1.ar 9 4 rfl
  have eas5 := f1.ar 9 5 rfl
  obtain ⟨n2, v2, ρ, j2, w2, rfl, c2, g2, f2, p20, p21, p22⟩ := m_286 τ g1 z0 b0.1 b0.2 z1 b1.1 b1.2 (by omega) (by omega) (by omega) 500 20000 (by decide) (by decide)
  have eb33_5 := f2.at 33 5 rfl
  have eb39_5 := f2.at 39 5 rfl
  have eb58_5 := f2.at 58 5 rfl
  have eb64_5 := f2.at 64 5 rfl
  have eb10_1 := f2.at 10 1 rfl
  have eb117_1 := f2.at 117 1 rfl
  have eb143_3 := f2.at 143 3 rfl
  have eb143_4 := f2.at 143 4 rfl
  have eb143_5 := f2.at 143 5 rfl
  have ebs4 := f2.ar 9 4 rfl
  have ebs5 := f2.ar 9 5 rfl
  exact ⟨n1, n2, _, _, τ, ρ, j1, j2, g2, (SPK_cg ebs4 ebs5 (SPK_cg eas4 eas5 hsp)), by omega, by omega, by omega, by omega, by omega, by omega, by omega, by omega, by omega, by omega, by omega⟩
set_option maxHeartbeats 4000000 in
theorem pm_strike {σ : jM} (I : Inv σ) (x0 : Int32) : PQ 118 291 [.int x0] σ := by
  obtain ⟨hg, hsp, t1, t2, t3, t4, r3, r4, r5, hk, h0, h1, ht⟩ := I
  obtain ⟨z0, b0, rfl⟩ := m_of x0
  obtain ⟨n1, v1, τ, j1, w1, rfl, c1, g1, f1⟩ := m_118_r9 σ hg z0 b0.1 b0.2 hsp 500 20000 (by decide) (by decide)
  have ea33_5 := f1.at 33 5 rfl
  have ea39_5 := f1.at 39 5 rfl
  have ea58_5 := f1.at 58 5 rfl
  have ea64_5 := f1.at 64 5 rfl
  have ea10_1 := f1.at 10 1 rfl
  have ea117_1 := f1.at 117 1 rfl
  have ea143_3 := f1.at 143 3 rfl
  have ea143_4 := f1.at 143 4 rfl
  have ea143_5 := f1.at 143 5 rfl
  have eakp := kp_fr f1 (fun _ => rfl) (fun _ => rfl)
  have eal0 := l0_fr f1 rfl (fun _ => rfl)
  have eal1 := l1_fr f1 rfl (fun _ => rfl)
  have eas4 := f1.ar 9 4 rfl
  have eas5 := f1.ar 9 5 rfl
  obtain ⟨n2, v2, ρ, j2, w2, rfl, c2, g2, f2, p20, p21, p22⟩ := m_291 τ g1 z0 b0.1 b0.2 (by omega) (by omega) (by omega) 500 20000 (by decide) (by decide)
  have eb33_5 := f2.at 33 5 rfl
  have eb39_5 := f2.at 39 5 rfl
  have eb58_5 := f2.at 58 5 rfl
  have eb64_5 := f2.at 64 5 rfl
  have eb10_1 := f2.at 10 1 rfl
  have eb117_1 := f2.at 117 1 rfl
  have eb143_3 := f2.at 143 3 rfl
  have eb143_4 := f2.at 143 4 rfl
  have eb143_5 := f2.at 143 5 rfl
  have ebs4 := f2.ar 9 4 rfl
  have ebs5 := f2.ar 9 5 rfl
  exact ⟨n1, n2, _, _, τ, ρ, j1, j2, g2, (SPK_cg ebs4 ebs5 (SPK_cg eas4 eas5 hsp)), by omega, by omega, by omega, by omega, by omega, by omega, by omega, by omega, by omega, by omega, by omega⟩
set_option maxHeartbeats 4000000 in
theorem pm_swap {σ : jM} (I : Inv σ) (x0 : Int32) (x1 : Int32) : PQ 119 292 [.int x0, .int x1] σ := by
  obtain ⟨hg, hsp, t1, t2, t3, t4, r3, r4, r5, hk, h0, h1, ht⟩ := I
  obtain ⟨z0, b0, rfl⟩ := m_of x0
  obtain ⟨z1, b1, rfl⟩ := m_of x1
  obtain ⟨n1, v1, τ, j1, w1, rfl, c1, g1, f1⟩ := m_119_r9 σ hg z0 b0.1 b0.2 z1 b1.1 b1.2 hsp 500 20000 (by decide) (by decide)
  have ea33_5 := f1.at 33 5 rfl
  have ea39_5 := f1.at 39 5 rfl
  have ea58_5 := f1.at 58 5 rfl
  have ea64_5 := f1.at 64 5 rfl
  have ea10_1 := f1.at 10 1 rfl
  have ea117_1 := f1.at 117 1 rfl
  have ea143_3 := f1.at 143 3 rfl
  have ea143_4 := f1.at 143 4 rfl
  have ea143_5 := f1.at 143 5 rfl
  have eakp := kp_fr f1 (fun _ => rfl) (fun _ => rfl)
  have eal0 := l0_fr f1 rfl (fun _ => rfl)
  have eal1 := l1_fr f1 rfl (fun _ => rfl)
  have eas4 := f1.ar 9 4 rfl
  have eas5 := f1.ar 9 5 rfl
  obtain ⟨n2, v2, ρ, j2, w2, rfl, c2, g2, f2, p20, p21, p22⟩ := m_292 τ g1 z0 b0.1 b0.2 z1 b1.1 b1.2 (by omega) (by omega) (by omega) 500 20000 (by decide) (by decide)
  have eb33_5 := f2.at 33 5 rfl
  have eb39_5 := f2.at 39 5 rfl
  have eb58_5 := f2.at 58 5 rfl
  have eb64_5 := f2.at 64 5 rfl
  have eb10_1 := f2.at 10 1 rfl
  have eb117_1 := f2.at 117 1 rfl
  have eb143_3 := f2.at 143 3 rfl
  have eb143_4 := f2.at 143 4 rfl
  have eb143_5 := f2.at 143 5 rfl
  have ebs4 := f2.ar 9 4 rfl
  have ebs5 := f2.ar 9 5 rfl
  exact ⟨n1, n2, _, _, τ, ρ, j1, j2, g2, (SPK_cg ebs4 ebs5 (SPK_cg eas4 eas5 hsp)), by omega, by omega, by omega, by omega, by omega, by omega, by omega, by omega, by omega, by omega, by omega⟩
set_option maxHeartbeats 4000000 in
theorem pm_undo {σ : jM} (I : Inv σ)  : PQ 120 285 [] σ := by
  obtain ⟨hg, hsp, t1, t2, t3, t4, r3, r4, r5, hk, h0, h1, ht⟩ := I
  obtain ⟨n1, v1, τ, j1, w1, rfl, c1, g1, f1⟩ := m_120_r9 σ hg  hsp 500 20000 (by decide) (by decide)
  have ea33_5 := f1.at 33 5 rfl
  have ea39_5 := f1.at 39 5 rfl
  have ea58_5 := f1.at 58 5 rfl
  have ea64_5 := f1.at 64 5 rfl
  have ea10_1 := f1.at 10 1 rfl
  have ea117_1 := f1.at 117 1 rfl
  have ea143_3 := f1.at 143 3 rfl
  have ea143_4 := f1.at 143 4 rfl
  have ea143_5 := f1.at 143 5 rfl
  have eakp := kp_fr f1 (fun _ => rfl) (fun _ => rfl)
  have eal0 := l0_fr f1 rfl (fun _ => rfl)
  have eal1 := l1_fr f1 rfl (fun _ => rfl)
  have eas4 := f1.ar 9 4 rfl
  have eas5 := f1.ar 9 5 rfl
  obtain ⟨n2, v2, ρ, j2, w2, rfl, c2, g2, f2, p20, p21⟩ := m_285 τ g1  (by omega) (by omega) 500 20000 (by decide) (by decide)
  have eb33_5 := f2.at 33 5 rfl
  have eb39_5 := f2.at 39 5 rfl
  have eb58_5 := f2.at 58 5 rfl
  have eb64_5 := f2.at 64 5 rfl
  have eb10_1 := f2.at 10 1 rfl
  have eb117_1 := f2.at 117 1 rfl
  have eb143_3 := f2.at 143 3 rfl
  have eb143_4 := f2.at 143 4 rfl
  have eb143_5 := f2.at 143 5 rfl
  have ebkp := kp_fr f2 (fun _ => rfl) (fun _ => rfl)
  have ebs4 := f2.ar 9 4 rfl
  have ebs5 := f2.ar 9 5 rfl
  exact ⟨n1, n2, _, _, τ, ρ, j1, j2, g2, (SPK_cg ebs4 ebs5 (SPK_cg eas4 eas5 hsp)), by omega, by omega, by omega, by omega, by omega, by omega, by omega, by omega, by omega, by omega, by omega⟩
set_option maxHeartbeats 4000000 in
theorem pm_changes {σ : jM} (I : Inv σ) (x0 : Int32) : PQ 122 293 [.int x0] σ := by
  obtain ⟨hg, hsp, t1, t2, t3, t4, r3, r4, r5, hk, h0, h1, ht⟩ := I
  obtain ⟨z0, b0, rfl⟩ := m_of x0
  obtain ⟨n1, v1, τ, j1, w1, rfl, c1, g1, f1⟩ := m_122_r9 σ hg z0 b0.1 b0.2 hsp 500 20000 (by decide) (by decide)
  have ea33_5 := f1.at 33 5 rfl
  have ea39_5 := f1.at 39 5 rfl
  have ea58_5 := f1.at 58 5 rfl
  have ea64_5 := f1.at 64 5 rfl
  have ea10_1 := f1.at 10 1 rfl
  have ea117_1 := f1.at 117 1 rfl
  have ea143_3 := f1.at 143 3 rfl
  have ea143_4 := f1.at 143 4 rfl
  have ea143_5 := f1.at 143 5 rfl
  have eakp := kp_fr f1 (fun _ => rfl) (fun _ => rfl)
  have eal0 := l0_fr f1 rfl (fun _ => rfl)
  have eal1 := l1_fr f1 rfl (fun _ => rfl)
  have eas4 := f1.ar 9 4 rfl
  have eas5 := f1.ar 9 5 rfl
  obtain ⟨n2, v2, ρ, j2, w2, rfl, c2, g2, f2⟩ := m_293 τ g1 z0 b0.1 b0.2 (by omega) 500 20000 (by decide) (by decide)
  have eb33_5 := f2.at 33 5 rfl
  have eb39_5 := f2.at 39 5 rfl
  have eb58_5 := f2.at 58 5 rfl
  have eb64_5 := f2.at 64 5 rfl
  have eb10_1 := f2.at 10 1 rfl
  have eb117_1 := f2.at 117 1 rfl
  have eb143_3 := f2.at 143 3 rfl
  have eb143_4 := f2.at 143 4 rfl
  have eb143_5 := f2.at 143 5 rfl
  have ebkp := kp_fr f2 (fun _ => rfl) (fun _ => rfl)
  have ebl0 := l0_fr f2 rfl (fun _ => rfl)
  have ebl1 := l1_fr f2 rfl (fun _ => rfl)
  have ebs4 := f2.ar 9 4 rfl
  have ebs5 := f2.ar 9 5 rfl
  exact ⟨n1, n2, _, _, τ, ρ, j1, j2, g2, (SPK_cg ebs4 ebs5 (SPK_cg eas4 eas5 hsp)), by omega, by omega, by omega, by omega, by omega, by omega, by omega, by omega, by omega, by omega, by omega⟩
