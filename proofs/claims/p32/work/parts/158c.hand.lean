/-! A QUESTION READ: what codes and waiting signs come to. -/
theorem tq_e {σ : jM} : tq σ = σ.1 177 (σ.1 117 89 - 1).toNat := rfl
theorem ws_nn {σ : jM} : 0 ≤ ws σ := wsf_nn
theorem dp_0 {σ : jM} (h : σ.1 117 87 = 0) : dp σ = 0 := by
  unfold dp
  rw [h]
  rfl
theorem ws_0 {σ : jM} (h : σ.1 117 89 ≤ 0) : ws σ = 0 := by
  unfold ws
  rw [show (σ.1 117 89).toNat = 0 by omega]
  rfl
theorem tt_0 {σ : jM} (h : σ.1 117 89 ≤ 0) : tt σ = 1 := kpf_1 (fun i hi => by omega)
theorem dp_push {σ τ ρ : jM} {j : Nat} {c : Int} (h1 : FRw 176 j σ τ) (e1 : τ.1 176 j = c) (hj : j = (σ.1 117 87).toNat) (h2 : FRw 117 87 τ ρ) (e2 : ρ.1 117 87 = σ.1 117 87 + 1) (h0 : 0 ≤ σ.1 117 87) : dp ρ = stp (dp σ) c := by
  unfold dp
  rw [e2, show (σ.1 117 87 + 1).toNat = (σ.1 117 87).toNat + 1 by omega]
  show stp (dpf (fun j => ρ.1 176 j) (σ.1 117 87).toNat) (ρ.1 176 (σ.1 117 87).toNat) = _
  rw [h2.na (b := 176) (by decide), ← hj, e1, dpf_cg (f := fun j => ρ.1 176 j) (g := fun j => σ.1 176 j) (fun i hi => by
    show ρ.1 176 i = σ.1 176 i
    rw [h2.na (b := 176) (by decide), h1.nj (b := 176) (by omega)])]
theorem ws_top {σ : jM} (h1 : 1 ≤ σ.1 117 89) : ws σ = wsf (fun j => σ.1 177 j) (σ.1 117 89 - 1).toNat + wgt (tq σ) := by
  unfold ws
  rw [show (σ.1 117 89).toNat = (σ.1 117 89 - 1).toNat + 1 by omega]
  rfl
theorem wk_tq {σ : jM} (h : wk σ = 1) (h1 : 1 ≤ σ.1 117 89) : (σ.1 117 89 ≤ σ.1 117 91 → (tq σ = 10 ∨ tq σ = 11 ∨ tq σ = 12 ∨ tq σ = 25)) ∧ (σ.1 117 91 < σ.1 117 89 → ((1 ≤ tq σ ∧ tq σ ≤ 4) ∨ (20 ≤ tq σ ∧ tq σ ≤ 24) ∨ tq σ = 60)) := by
  have k := kpf_o h (σ.1 117 89 - 1).toNat (by omega)
  exact ⟨fun z => k.1 (by omega), fun z => k.2 (by omega)⟩
theorem tt_tq {σ : jM} (h : tt σ = 1) (h1 : 1 ≤ σ.1 117 89) : tq σ = 10 ∨ tq σ = 11 ∨ tq σ = 12 ∨ tq σ = 25 := kpf_o h (σ.1 117 89 - 1).toNat (by omega)
theorem wk_tt {σ : jM} (h : wk σ = 1) (h1 : σ.1 117 89 ≤ σ.1 117 91) : tt σ = 1 := kpf_1 (fun i hi => (kpf_o h i hi).1 (by omega))
theorem qb_tq {σ : jM} (h : σ.1 117 91 < σ.1 117 89) (h0 : 0 ≤ σ.1 117 91) (h1 : 20 ≤ tq σ) (h2 : tq σ ≤ 24) : qb σ = tq σ := by
  unfold qb
  rw [show (σ.1 117 89).toNat = (σ.1 117 89 - 1).toNat + 1 by omega]
  show (if (((σ.1 117 89 - 1).toNat : Nat) : Int) < σ.1 117 91 then -1 else if 20 ≤ tq σ ∧ tq σ ≤ 24 then tq σ else _) = _
  rw [if_neg (by omega), if_pos ⟨h1, h2⟩]
theorem qb_0 {σ : jM} (h : σ.1 117 89 ≤ σ.1 117 91) : qb σ = -1 := by
  unfold qb
  cases e : (σ.1 117 89).toNat with
  | zero => rfl
  | succ n =>
    show (if (n : Int) < σ.1 117 91 then -1 else _) = _
    rw [if_pos (by omega)]
theorem sq_0 {σ : jM} (h : σ.1 117 89 ≤ 0) : sq σ = 0 := by
  unfold sq
  rw [show (σ.1 117 89).toNat = 0 by omega]
  rfl
theorem sq_tq {σ : jM} (h : 1 ≤ σ.1 117 89) (h1 : tq σ = 25) : sq σ = 1 := sqf_1 (f := fun j => σ.1 177 j) (i := (σ.1 117 89 - 1).toNat) h1 (by omega)
/-- the last one taken off -/
theorem pop {σ τ : jM} (h : FRw 117 89 σ τ) (e : τ.1 117 89 = σ.1 117 89 - 1) (h1 : 1 ≤ σ.1 117 89) : ((tq σ ≤ 11 ∨ tq σ = 23 ∨ tq σ = 24) → ws τ = ws σ - 1) ∧ ((tq σ = 12 ∨ (20 ≤ tq σ ∧ tq σ ≤ 22) ∨ 25 ≤ tq σ) → ws τ = ws σ) ∧ (tt σ = 1 → tt τ = 1) ∧ (wk σ = 1 → wk τ = 1) ∧ (σ.1 117 91 < σ.1 117 89 → 0 ≤ σ.1 117 91 → (tq σ < 20 ∨ 24 < tq σ) → qb τ = qb σ) ∧ (tq σ ≠ 25 → sq τ = sq σ) := by
  have hf : ∀ i, τ.1 177 i = σ.1 177 i := fun i => h.na (by decide)
  have w := ws_top h1
  have g := wgt_e (c := tq σ)
  have hw : ws τ = wsf (fun j => σ.1 177 j) (σ.1 117 89 - 1).toNat := by
    unfold ws
    rw [e]
    exact wsf_cg (fun i _ => hf i)
  refine ⟨fun z => by have := g.1 z; omega, fun z => by have := g.2.1 z; omega, fun z => kpf_1 ?_, fun z => kpf_1 ?_, fun z z0 z1 => ?_, fun z => ?_⟩
  · rw [e]
    exact ttP_cg (fun i _ => (hf i).symm) (by omega) (kpf_o z)
  · rw [e, show τ.1 117 91 = σ.1 117 91 from h.nj (by decide)]
    exact wkP_cg (fun i _ => (hf i).symm) (by omega) (kpf_o z)
  · unfold qb
    rw [e, show τ.1 117 91 = σ.1 117 91 from h.nj (by decide), show (σ.1 117 89).toNat = (σ.1 117 89 - 1).toNat + 1 by omega]
    show _ = (if (((σ.1 117 89 - 1).toNat : Nat) : Int) < σ.1 117 91 then -1 else if 20 ≤ tq σ ∧ tq σ ≤ 24 then tq σ else _)
    rw [if_neg (by omega), if_neg (by omega)]
    exact qbf_cg (fun i _ => hf i)
  · unfold sq
    rw [e, show (σ.1 117 89).toNat = (σ.1 117 89 - 1).toNat + 1 by omega]
    show _ = (if tq σ = 25 then 1 else _)
    rw [if_neg z]
    exact sqf_cg (fun i _ => hf i)
/-- one more put on -/
theorem psh {σ τ ρ : jM} {j : Nat} {c : Int} (h1 : FRw 177 j σ τ) (e1 : τ.1 177 j = c) (hj : j = (σ.1 117 89).toNat) (h2 : FRw 117 89 τ ρ) (e2 : ρ.1 117 89 = σ.1 117 89 + 1) (h0 : 0 ≤ σ.1 117 89) : ((c ≤ 11 ∨ c = 23 ∨ c = 24) → ws ρ = ws σ + 1) ∧ ((c = 12 ∨ (20 ≤ c ∧ c ≤ 22) ∨ 25 ≤ c) → ws ρ = ws σ) ∧ (wk σ = 1 → σ.1 117 91 ≤ σ.1 117 89 → ((1 ≤ c ∧ c ≤ 4) ∨ (20 ≤ c ∧ c ≤ 24) ∨ c = 60) → wk ρ = 1) ∧ (tt σ = 1 → (c = 10 ∨ c = 11 ∨ c = 12 ∨ c = 25) → tt ρ = 1) ∧ tq ρ = c := by
  have hf : ∀ i, i < j → ρ.1 177 i = σ.1 177 i := fun i hi => (h2.na (b := 177) (by decide)).trans (h1.nj (by omega))
  have hc : ρ.1 177 j = c := (h2.na (b := 177) (by decide)).trans e1
  have hn : (ρ.1 117 89).toNat = j + 1 := by omega
  have hw : ws ρ = ws σ + wgt c := by
    unfold ws
    rw [hn, ← hj]
    show wsf (fun j => ρ.1 177 j) j + wgt (ρ.1 177 j) = _
    rw [hc, wsf_cg (f := fun j => ρ.1 177 j) (g := fun j => σ.1 177 j) hf]
  have g := wgt_e (c := c)
  refine ⟨fun z => by have := g.1 z; omega, fun z => by have := g.2.1 z; omega, fun z z1 z2 => kpf_1 ?_, fun z z2 => kpf_1 ?_, ?_⟩
  · rw [hn, show ρ.1 117 91 = σ.1 117 91 from (h2.nj (by decide)).trans (h1.na (by decide))]
    intro i hi
    by_cases e : i = j
    · subst e
      show (_ → TOK (ρ.1 177 i)) ∧ (_ → SOK (ρ.1 177 i))
      rw [hc]
      exact ⟨fun q => by omega, fun _ => z2⟩
    · show (_ → TOK (ρ.1 177 i)) ∧ (_ → SOK (ρ.1 177 i))
      rw [hf i (by omega)]
      exact kpf_o z i (by omega)
  · rw [hn]
    intro i hi
    by_cases e : i = j
    · subst e
      show TOK (ρ.1 177 i)
      rw [hc]
      exact z2
    · show TOK (ρ.1 177 i)
      rw [hf i (by omega)]
      exact kpf_o z i (by omega)
  · rw [tq_e, e2, show (σ.1 117 89 + 1 - 1).toNat = j by omega, hc]
/-- a bracket that has its comma -/
theorem bmp {σ τ : jM} {j : Nat} {c : Int} (h1 : FRw 177 j σ τ) (e1 : τ.1 177 j = c) (hj : j = (σ.1 117 89 - 1).toNat) (h0 : 1 ≤ σ.1 117 89) (hb : σ.1 117 91 < σ.1 117 89) (hc : tq σ = 21 ∨ tq σ = 22) (e : c = tq σ + 2) : ws τ = ws σ + 1 ∧ (wk σ = 1 → wk τ = 1) := by
  have e9 : τ.1 117 89 = σ.1 117 89 := h1.na (by decide)
  have t9 : tq τ = c := by rw [tq_e, e9, ← hj, e1]
  have w1 := ws_top h0
  have w2 := ws_top (σ := τ) (by omega)
  rw [e9, wsf_cg (f := fun j => τ.1 177 j) (g := fun j => σ.1 177 j) (fun i hi => h1.nj (by omega)), t9] at w2
  have g1 := wgt_e (c := tq σ)
  have g2 := wgt_e (c := c)
  have g3 := g1.2.1 (by omega)
  have g4 := g2.1 (by omega)
  refine ⟨by omega, fun z => kpf_1 ?_⟩
  rw [e9, show τ.1 117 91 = σ.1 117 91 from h1.na (by decide)]
  intro i hi
  show (_ → TOK (τ.1 177 i)) ∧ (_ → SOK (τ.1 177 i))
  by_cases q : i = j
  · subst q
    rw [e1]
    exact ⟨fun q => by omega, fun _ => Or.inr (Or.inl (by omega))⟩
  · rw [show τ.1 177 i = σ.1 177 i from h1.nj q]
    exact kpf_o z i hi
/-- the floor set, and set back -/
theorem bas {σ τ : jM} (h : FRw 117 91 σ τ) (e : τ.1 117 91 = σ.1 117 89) (h0 : 0 ≤ σ.1 117 89) (ht : tt σ = 1) : wk τ = 1 := kpf_1 (by
  rw [show τ.1 117 89 = σ.1 117 89 from h.nj (by decide), e]
  intro i hi
  show (_ → TOK (τ.1 177 i)) ∧ (_ → SOK (τ.1 177 i))
  rw [show τ.1 177 i = σ.1 177 i from h.na (by decide)]
  exact ⟨fun _ => kpf_o ht i hi, fun q => by omega⟩)
/-- the search for a bracket -/
def QBI (σ : jM) (x : Int) : Prop := qbf (fun j => σ.1 177 j) (σ.1 117 91) (x + 1).toNat = qb σ
theorem qbi_i {σ : jM} : QBI σ (σ.1 117 89 - 1) := by
  unfold QBI
  rw [show (σ.1 117 89 - 1 + 1) = σ.1 117 89 by omega]
  rfl
theorem qbi_0 {σ : jM} {x : Int} (h : QBI σ x) (h1 : x < σ.1 117 91) : qb σ = -1 := by
  rw [← h]
  cases e : (x + 1).toNat with
  | zero => rfl
  | succ n =>
    show (if (n : Int) < σ.1 117 91 then -1 else _) = _
    rw [if_pos (by omega)]
theorem qbi_1 {σ : jM} {x : Int} (h : QBI σ x) (h0 : 0 ≤ x) (h1 : σ.1 117 91 ≤ x) (h2 : 20 ≤ σ.1 177 x.toNat) (h3 : σ.1 177 x.toNat ≤ 24) : qb σ = σ.1 177 x.toNat := by
  rw [← h, show (x + 1).toNat = x.toNat + 1 by omega]
  show (if ((x.toNat : Nat) : Int) < σ.1 117 91 then -1 else if 20 ≤ σ.1 177 x.toNat ∧ σ.1 177 x.toNat ≤ 24 then σ.1 177 x.toNat else _) = _
  rw [if_neg (by omega), if_pos ⟨h2, h3⟩]
theorem qbi_s {σ : jM} {x : Int} (h : QBI σ x) (h0 : 0 ≤ x) (h1 : σ.1 117 91 ≤ x) (h2 : σ.1 177 x.toNat < 20 ∨ 24 < σ.1 177 x.toNat) : QBI σ (x + -1) := by
  unfold QBI at h ⊢
  rw [← h, show (x + 1).toNat = x.toNat + 1 by omega, show (x + -1 + 1).toNat = x.toNat by omega]
  show _ = (if ((x.toNat : Nat) : Int) < σ.1 117 91 then -1 else if 20 ≤ σ.1 177 x.toNat ∧ σ.1 177 x.toNat ≤ 24 then σ.1 177 x.toNat else _)
  rw [if_neg (by omega), if_neg (by omega)]
def SQI (σ : jM) (x : Int) : Prop := sqf (fun j => σ.1 177 j) x.toNat = 0
theorem sqi_0 {σ : jM} : SQI σ 0 := rfl
theorem sqi_s {σ : jM} {x : Int} (h : SQI σ x) (h0 : 0 ≤ x) (h1 : σ.1 177 x.toNat ≠ 25) : SQI σ (x + 1) := by
  unfold SQI at h ⊢
  rw [show (x + 1).toNat = x.toNat + 1 by omega]
  show (if σ.1 177 x.toNat = 25 then 1 else _) = _
  rw [if_neg h1, h]
theorem sqi_e {σ : jM} {x : Int} (h : SQI σ x) (h1 : x = σ.1 117 89) : sq σ = 0 := by
  rw [← h, h1]
  rfl
theorem sqi_1 {σ : jM} {x : Int} (h0 : 0 ≤ x) (h1 : x < σ.1 117 89) (h2 : σ.1 177 x.toNat = 25) : sq σ = 1 := sqf_1 (f := fun j => σ.1 177 j) (i := x.toNat) h2 (by omega)
/-- the codes, run -/
def DPA (σ : jM) (x : Int) : Int := dpf (fun j => σ.1 176 j) x.toNat
theorem dpa_0 {σ : jM} : DPA σ 0 = 0 := rfl
theorem dpa_e {σ : jM} (h : 0 ≤ dp σ) {x : Int} (h0 : 0 ≤ x) (h1 : x ≤ σ.1 117 87) : 0 ≤ DPA σ x ∧ DPA σ x ≤ x := by
  have a := dpf_mono (f := fun j => σ.1 176 j) (n := (σ.1 117 87).toNat) h (m := x.toNat) (by omega)
  have b := dpf_le (f := fun j => σ.1 176 j) (n := x.toNat)
  unfold DPA
  omega
theorem dpa_s {σ : jM} (h : 0 ≤ dp σ) {x : Int} (h0 : 0 ≤ x) (h1 : x < σ.1 117 87) : 0 ≤ DPA σ x ∧ DPA σ x ≤ x ∧ 0 ≤ DPA σ (x + 1) ∧ ((1000 ≤ σ.1 176 x.toNat ∨ (40 ≤ σ.1 176 x.toNat ∧ σ.1 176 x.toNat ≤ 59) ∨ σ.1 176 x.toNat = 13) → DPA σ (x + 1) = DPA σ x + 1) ∧ (((60 ≤ σ.1 176 x.toNat ∧ σ.1 176 x.toNat ≤ 999) ∨ σ.1 176 x.toNat = 12) → 1 ≤ DPA σ x ∧ DPA σ (x + 1) = DPA σ x) ∧ ((σ.1 176 x.toNat ≤ 11 ∨ (14 ≤ σ.1 176 x.toNat ∧ σ.1 176 x.toNat ≤ 39)) → 2 ≤ DPA σ x ∧ DPA σ (x + 1) = DPA σ x - 1) := by
  obtain ⟨a, b⟩ := dpa_e h h0 (Int.le_of_lt h1)
  obtain ⟨c, -⟩ := dpa_e h (x := x + 1) (by omega) (by omega)
  have e : DPA σ (x + 1) = stp (DPA σ x) (σ.1 176 x.toNat) := by
    unfold DPA
    rw [show (x + 1).toNat = x.toNat + 1 by omega]
    rfl
  obtain ⟨s1, s2, s3, s4, s5, s6, s7, s8⟩ := stp_e (d := DPA σ x) (c := σ.1 176 x.toNat)
  rw [e] at c ⊢
  exact ⟨a, b, c, fun z => s2 a z, fun z => ⟨s5 c z, s3 (s5 c z) z⟩, fun z => ⟨s6 c z, s4 (s6 c z) z⟩⟩
theorem qbn {σ : jM} (h : σ.1 117 91 < σ.1 117 89) (h0 : 0 ≤ σ.1 117 91) (hq : qb σ = -1) : tq σ < 20 ∨ 24 < tq σ := by
  by_cases a : 20 ≤ tq σ
  · by_cases b : tq σ ≤ 24
    · have := qb_tq h h0 a b
      omega
    · omega
  · omega
