/-! THE CELLS OF THE TWO OBJECTS: kinds, places, ranges. -/
def jOld : List jc := [(false, 97, []), (true, 0, j_ints j_next), (false, 99, [.ref 5, .int 0]), (false, 99, [.ref 6, .int 0]), (false, 99, [.ref 7, .int 0]), (true, 5, j_ints j_by0), (true, 5, j_ints j_by1), (true, 5, j_ints j_by2), (false, 98, [])]
def jSKl : List jZ := [(true, 99, [], 0),
  (false, 11, [110, 112, 114, 116, 2, 2, 170, 175, 180, 185, 190, 193, 202, 214, 216, 1], 0),
  (false, 6, [111, 0, 0, 0, 0, 0, 0, 0, 0], 0),
  (true, 0, [], 1600),
  (false, 9, [110, 113], 0),
  (true, 0, [], 18),
  (false, 2, [110, 115], 0),
  (true, 0, [], 18),
  (false, 3, [110, 117, 118, 119, 0, 0, 0, 0, 2, 2, 2], 0),
  (true, 0, [], 19),
  (true, 0, [], 1600),
  (true, 1, [], 64),
  (false, 8, [4, 5, 6, 7, 8, 9, 10, 16, 22, 0, 0, 0, 0, 1], 0),
  (true, 0, [], 25),
  (true, 0, [], 3),
  (true, 0, [], 6),
  (true, 0, [], 5),
  (true, 0, [], 5),
  (true, 1, [], 18),
  (false, 7, [4, 5, 6, 7, 8, 0, 1, 1], 0),
  (true, 3, [], 16),
  (true, 0, [], 48),
  (true, 0, [], 16),
  (true, 0, [], 16),
  (true, 1, [], 16),
  (true, 3, [], 8),
  (true, 0, [], 24),
  (true, 0, [], 8),
  (true, 0, [], 8),
  (true, 1, [], 8),
  (true, 3, [], 10),
  (true, 0, [], 30),
  (true, 0, [], 10),
  (true, 0, [], 10),
  (true, 1, [], 10),
  (false, 4, [4, 0, 0, 5, 6, 7, 0, 1, 0], 0),
  (true, 0, [], 60),
  (true, 0, [], 61),
  (true, 0, [], 31),
  (true, 1, [], 30),
  (false, 0, [191, 192, 0, 0], 0),
  (true, 0, [], 1200),
  (true, 0, [], 20),
  (false, 5, [194, 195, 196, 197, 198, 199, 200, 201, 0, 0, 0, 0, 1, 1, 0], 0),
  (true, 1, [], 24),
  (true, 1, [], 1752),
  (true, 0, [], 1752),
  (true, 0, [], 4096),
  (true, 0, [], 1752),
  (true, 1, [], 2),
  (true, 3, [], 2),
  (true, 0, [], 8),
  (false, 10, [203], 0),
  (true, 4, [204, 209], 0),
  (false, 1, [215, 0], 0),
  (true, 0, [], 123),
  (true, 0, [], 6),
  (false, 12, [218, 0, 0, 0, 0, 0, 0, 0, 0, 219, 220, 221, 222, 223, 224, 225, 226, 227, 228, 229, 230, 231, 232, 233, 234, 235, 236, 237, 0, 238, 239, 240, 241, 0, 0, 242, 243, 0, 0, 0, 244, 245, 1, 246, 0, 0, 247, 248, 249, 0, 250, 251, 0, 0, 252, 253, 0, 254, 0, 0, 0, 0, 255, 0, 256, 0, 1, 257, 258, 259, 260, 261, 262, 263, 264, 265, 266, 267, 268, 269, 270, 271, 272, 273, 274, 275, 276, 0, 277, 0, 0, 0, 278, 0, 1, 0, 279, 0], 0),
  (true, 0, [], 1600),
  (true, 0, [], 6),
  (true, 2, [], 3),
  (true, 2, [], 4),
  (true, 2, [], 4),
  (true, 2, [], 4),
  (true, 2, [], 5),
  (true, 2, [], 5),
  (true, 2, [], 5),
  (true, 2, [], 4),
  (true, 2, [], 5),
  (true, 2, [], 6),
  (true, 2, [], 6),
  (true, 2, [], 4),
  (true, 2, [], 3),
  (true, 2, [], 5),
  (true, 2, [], 3),
  (true, 2, [], 2),
  (true, 2, [], 3),
  (true, 2, [], 6),
  (true, 1, [], 36),
  (true, 0, [], 12),
  (true, 1, [], 10),
  (true, 0, [], 10),
  (true, 0, [], 408),
  (true, 0, [], 6),
  (true, 1, [], 18),
  (true, 1, [], 34),
  (true, 0, [], 64),
  (true, 0, [], 128),
  (true, 0, [], 2),
  (true, 0, [], 64),
  (true, 0, [], 1280),
  (true, 0, [], 20),
  (true, 1, [], 1760),
  (true, 0, [], 1760),
  (true, 0, [], 24),
  (true, 0, [], 2900),
  (true, 0, [], 64),
  (true, 2, [], 5),
  (true, 2, [], 4),
  (true, 2, [], 5),
  (true, 2, [], 5),
  (true, 2, [], 4),
  (true, 2, [], 5),
  (true, 2, [], 3),
  (true, 2, [], 3),
  (true, 2, [], 2),
  (true, 2, [], 3),
  (true, 2, [], 3),
  (true, 2, [], 3),
  (true, 2, [], 4),
  (true, 2, [], 3),
  (true, 2, [], 4),
  (true, 2, [], 4),
  (true, 2, [], 3),
  (true, 2, [], 5),
  (true, 2, [], 5),
  (true, 0, [], 1700),
  (true, 0, [], 1700),
  (true, 1, [], 1700),
  (true, 0, [], 123)]
noncomputable def jSK (k : Nat) : jZ := match j_nth jSKl k with | some s => s | none => (true, 99, [], 0)
def jKD : List Nat := [1, 2, 3, 4, 5, 6, 7, 8, 9, 10, 11, 12, 13, 14, 15, 16, 17, 18, 19, 20, 21, 22, 23, 24, 19, 25, 26, 27, 28, 29, 19, 30, 31, 32, 33, 34, 12, 13, 14, 15, 16, 17, 18, 19, 20, 21, 22, 23, 24, 19, 25, 26, 27, 28, 29, 19, 30, 31, 32, 33, 34, 35, 36, 37, 38, 39, 35, 36, 37, 38, 39, 35, 36, 37, 38, 39, 35, 36, 37, 38, 39, 40, 41, 42, 43, 44, 45, 46, 47, 48, 49, 50, 51, 52, 53, 35, 36, 37, 38, 39, 35, 36, 37, 38, 39, 54, 55, 56, 57, 58, 59, 60, 61, 62, 63, 64, 65, 66, 67, 68, 69, 70, 71, 72, 73, 74, 75, 76, 77, 78, 79, 80, 81, 82, 83, 84, 85, 86, 87, 88, 89, 90, 91, 92, 93, 94, 95, 96, 97, 98, 99, 100, 101, 102, 103, 104, 105, 106, 107, 108, 109, 110, 111, 112, 113, 114, 115, 116, 117, 118, 119]
def jRAl : List (Nat × Int × Int) := [(3, 0, 255), (10, (-1000000), 1000000), (14, 0, 4), (20, 0, 1), (25, 0, 1), (30, 0, 1), (36, 0, 255), (37, (-1), 4), (38, 0, 60), (41, 0, 255), (42, 0, 60), (46, 0, 1751), (47, 0, 1752), (48, 0, 1751), (50, 0, 1), (58, 0, 255), (79, 0, 11), (83, 0, 16), (86, 0, 255), (87, 0, 255), (88, 0, 60), (89, 0, 255), (90, 0, 255), (91, 0, 60), (94, 0, 23), (95, 0, 6143), (96, 0, 255)]
def jROl : List (Nat × Nat × Int × Int) := [(2, 1, 0, 1600), (2, 2, 0, 1600), (2, 5, 0, 1600), (2, 6, 0, 1600), (8, 4, 0, 1600), (8, 5, 0, 6), (8, 7, 0, 64), (12, 9, 0, 6), (12, 11, 0, 5), (19, 5, 0, 16), (35, 1, 0, 60), (35, 6, 0, 30), (35, 8, 0, 61), (40, 2, 0, 19), (40, 3, 0, 20), (43, 8, 0, 24), (43, 9, 0, 1752), (43, 10, 0, 1752), (43, 14, 0, 1), (54, 1, 0, 123), (57, 1, 0, 1600), (57, 2, 0, 1601), (57, 3, 0, 1600), (57, 33, 0, 5), (57, 34, 0, 5), (57, 39, 0, 71), (57, 44, 0, 60), (57, 49, 0, 61), (57, 52, 0, 20), (57, 53, 0, 19), (57, 56, 0, 1752), (57, 58, 0, 24), (57, 63, 0, 2900), (57, 65, 0, 61), (57, 87, 0, 1690), (57, 89, 0, 1690), (57, 91, 0, 1690), (57, 93, 0, 1700), (57, 95, 0, 1), (57, 97, 0, 123)]
noncomputable def j_ra (l : List (Nat × Int × Int)) (K : Nat) : Option (Int × Int) := List.rec none (fun q _ ih => cond (Nat.beq q.1 K) (some q.2) ih) l
noncomputable def j_ro (l : List (Nat × Nat × Int × Int)) (K f : Nat) : Int × Int := List.rec (-2147483648, 2147483647) (fun q _ ih => cond (Nat.beq q.1 K) (cond (Nat.beq q.2.1 f) q.2.2 ih) ih) l
noncomputable def jRG (K f : Nat) : Int × Int := cond (jSK K).1 (match j_ra jRAl K with | some q => q | none => (-2147483648, 2147483647)) (j_ro jROl K f)
def GI (σ : jM) : Prop := ∀ a f, (jRG (m_kd jKD a) f).1 ≤ σ.1 a f ∧ σ.1 a f ≤ (jRG (m_kd jKD a) f).2
theorem GI.b {σ : jM} (h : GI σ) (a f : Nat) {K : Nat} {lo hi : Int} (hk : m_kd jKD a = K) (e : jRG K f = (lo, hi)) : lo ≤ σ.1 a f ∧ σ.1 a f ≤ hi := by
  have := h a f
  rw [hk, e] at this
  exact this
theorem GI.i {σ : jM} (h : GI σ) {a f K : Nat} {v lo hi : Int} (hk : m_kd jKD a = K) (e : jRG K f = (lo, hi)) (h1 : lo ≤ v) (h2 : v ≤ hi) : GI (m_i σ a f v) := by
  intro b j
  by_cases hb : b = a ∧ j = f
  · obtain ⟨rfl, rfl⟩ := hb
    rw [m_i_eq, hk, e]
    exact ⟨h1, h2⟩
  · rw [show (m_i σ a f v).1 b j = σ.1 b j from m_cond_ne hb]
    exact h b j
theorem GI.l {σ : jM} (h : GI σ) {a f : Nat} {v : Int64} : GI (m_l σ a f v) := h
theorem GI.r {σ : jM} (h : GI σ) {a f v : Nat} : GI (m_r σ a f v) := h
def FR (W : Nat → Nat → Bool) (σ τ : jM) : Prop := ∀ a f, W a f = false → τ.1 a f = σ.1 a f ∧ τ.2.1 a f = σ.2.1 a f ∧ τ.2.2 a f = σ.2.2 a f
theorem FR.rf {W : Nat → Nat → Bool} {σ : jM} : FR W σ σ := fun _ _ _ => ⟨rfl, rfl, rfl⟩
theorem FR.up {W W1 : Nat → Nat → Bool} {σ τ ρ : jM} (h : FR W σ τ) (h1 : FR W1 τ ρ) (hs : ∀ a f, W1 a f = true → W a f = true) : FR W σ ρ := fun a f hn => by
  have hn1 : W1 a f = false := by
    cases hb : W1 a f with
    | false => rfl
    | true => rw [hs a f hb] at hn; cases hn
  obtain ⟨e1, e2, e3⟩ := h a f hn
  obtain ⟨f1, f2, f3⟩ := h1 a f hn1
  exact ⟨f1.trans e1, f2.trans e2, f3.trans e3⟩
theorem FR.at {W : Nat → Nat → Bool} {σ τ : jM} (h : FR W σ τ) (a f : Nat) (hw : W a f = false) : τ.1 a f = σ.1 a f := (h a f hw).1
theorem FR.ar {W : Nat → Nat → Bool} {σ τ : jM} (h : FR W σ τ) (a f : Nat) (hw : W a f = false) : τ.2.2 a f = σ.2.2 a f := (h a f hw).2.2
theorem m_rgl {z : Int} (h : (decide (-2147483648 ≤ z) && decide (z ≤ 2147483647)) = true) : m_rg z := by
  rw [Bool.and_eq_true, decide_eq_true_eq, decide_eq_true_eq] at h
  exact h
theorem m_rgb {z lo hi : Int} (h : lo ≤ z ∧ z ≤ hi) (h1 : (decide (-2147483648 ≤ lo) && decide (hi ≤ 2147483647)) = true) : m_rg z := by
  rw [Bool.and_eq_true, decide_eq_true_eq, decide_eq_true_eq] at h1
  exact ⟨Int.le_trans h1.1 h.1, Int.le_trans h.2 h1.2⟩
theorem kd9 : m_kd jKD 9 = 1 := by decide +kernel
theorem kd10 : m_kd jKD 10 = 2 := by decide +kernel
theorem kd11 : m_kd jKD 11 = 3 := by decide +kernel
theorem kd12 : m_kd jKD 12 = 4 := by decide +kernel
theorem kd13 : m_kd jKD 13 = 5 := by decide +kernel
theorem kd14 : m_kd jKD 14 = 6 := by decide +kernel
theorem kd15 : m_kd jKD 15 = 7 := by decide +kernel
theorem kd16 : m_kd jKD 16 = 8 := by decide +kernel
theorem kd17 : m_kd jKD 17 = 9 := by decide +kernel
theorem kd18 : m_kd jKD 18 = 10 := by decide +kernel
theorem kd19 : m_kd jKD 19 = 11 := by decide +kernel
theorem kd20 : m_kd jKD 20 = 12 := by decide +kernel
theorem kd21 : m_kd jKD 21 = 13 := by decide +kernel
theorem kd22 : m_kd jKD 22 = 14 := by decide +kernel
theorem kd23 : m_kd jKD 23 = 15 := by decide +kernel
theorem kd24 : m_kd jKD 24 = 16 := by decide +kernel
theorem kd25 : m_kd jKD 25 = 17 := by decide +kernel
theorem kd26 : m_kd jKD 26 = 18 := by decide +kernel
theorem kd27 : m_kd jKD 27 = 19 := by decide +kernel
theorem kd28 : m_kd jKD 28 = 20 := by decide +kernel
theorem kd29 : m_kd jKD 29 = 21 := by decide +kernel
theorem kd30 : m_kd jKD 30 = 22 := by decide +kernel
theorem kd31 : m_kd jKD 31 = 23 := by decide +kernel
theorem kd32 : m_kd jKD 32 = 24 := by decide +kernel
theorem kd33 : m_kd jKD 33 = 19 := by decide +kernel
theorem kd34 : m_kd jKD 34 = 25 := by decide +kernel
theorem kd35 : m_kd jKD 35 = 26 := by decide +kernel
theorem kd36 : m_kd jKD 36 = 27 := by decide +kernel
theorem kd37 : m_kd jKD 37 = 28 := by decide +kernel
theorem kd38 : m_kd jKD 38 = 29 := by decide +kernel
theorem kd39 : m_kd jKD 39 = 19 := by decide +kernel
theorem kd40 : m_kd jKD 40 = 30 := by decide +kernel
theorem kd41 : m_kd jKD 41 = 31 := by decide +kernel
theorem kd42 : m_kd jKD 42 = 32 := by decide +kernel
theorem kd43 : m_kd jKD 43 = 33 := by decide +kernel
theorem kd44 : m_kd jKD 44 = 34 := by decide +kernel
theorem kd45 : m_kd jKD 45 = 12 := by decide +kernel
theorem kd46 : m_kd jKD 46 = 13 := by decide +kernel
theorem kd47 : m_kd jKD 47 = 14 := by decide +kernel
theorem kd48 : m_kd jKD 48 = 15 := by decide +kernel
theorem kd49 : m_kd jKD 49 = 16 := by decide +kernel
theorem kd50 : m_kd jKD 50 = 17 := by decide +kernel
theorem kd51 : m_kd jKD 51 = 18 := by decide +kernel
theorem kd52 : m_kd jKD 52 = 19 := by decide +kernel
theorem kd53 : m_kd jKD 53 = 20 := by decide +kernel
theorem kd54 : m_kd jKD 54 = 21 := by decide +kernel
theorem kd55 : m_kd jKD 55 = 22 := by decide +kernel
theorem kd56 : m_kd jKD 56 = 23 := by decide +kernel
theorem kd57 : m_kd jKD 57 = 24 := by decide +kernel
theorem kd58 : m_kd jKD 58 = 19 := by decide +kernel
theorem kd59 : m_kd jKD 59 = 25 := by decide +kernel
theorem kd60 : m_kd jKD 60 = 26 := by decide +kernel
theorem kd61 : m_kd jKD 61 = 27 := by decide +kernel
theorem kd62 : m_kd jKD 62 = 28 := by decide +kernel
theorem kd63 : m_kd jKD 63 = 29 := by decide +kernel
theorem kd64 : m_kd jKD 64 = 19 := by decide +kernel
theorem kd65 : m_kd jKD 65 = 30 := by decide +kernel
theorem kd66 : m_kd jKD 66 = 31 := by decide +kernel
theorem kd67 : m_kd jKD 67 = 32 := by decide +kernel
theorem kd68 : m_kd jKD 68 = 33 := by decide +kernel
theorem kd69 : m_kd jKD 69 = 34 := by decide +kernel
theorem kd70 : m_kd jKD 70 = 35 := by decide +kernel
theorem kd71 : m_kd jKD 71 = 36 := by decide +kernel
theorem kd72 : m_kd jKD 72 = 37 := by decide +kernel
theorem kd73 : m_kd jKD 73 = 38 := by decide +kernel
theorem kd74 : m_kd jKD 74 = 39 := by decide +kernel
theorem kd75 : m_kd jKD 75 = 35 := by decide +kernel
theorem kd76 : m_kd jKD 76 = 36 := by decide +kernel
theorem kd77 : m_kd jKD 77 = 37 := by decide +kernel
theorem kd78 : m_kd jKD 78 = 38 := by decide +kernel
theorem kd79 : m_kd jKD 79 = 39 := by decide +kernel
theorem kd80 : m_kd jKD 80 = 35 := by decide +kernel
theorem kd81 : m_kd jKD 81 = 36 := by decide +kernel
theorem kd82 : m_kd jKD 82 = 37 := by decide +kernel
theorem kd83 : m_kd jKD 83 = 38 := by decide +kernel
theorem kd84 : m_kd jKD 84 = 39 := by decide +kernel
theorem kd85 : m_kd jKD 85 = 35 := by decide +kernel
theorem kd86 : m_kd jKD 86 = 36 := by decide +kernel
theorem kd87 : m_kd jKD 87 = 37 := by decide +kernel
theorem kd88 : m_kd jKD 88 = 38 := by decide +kernel
theorem kd89 : m_kd jKD 89 = 39 := by decide +kernel
theorem kd90 : m_kd jKD 90 = 40 := by decide +kernel
theorem kd91 : m_kd jKD 91 = 41 := by decide +kernel
theorem kd92 : m_kd jKD 92 = 42 := by decide +kernel
theorem kd93 : m_kd jKD 93 = 43 := by decide +kernel
theorem kd94 : m_kd jKD 94 = 44 := by decide +kernel
theorem kd95 : m_kd jKD 95 = 45 := by decide +kernel
theorem kd96 : m_kd jKD 96 = 46 := by decide +kernel
theorem kd97 : m_kd jKD 97 = 47 := by decide +kernel
theorem kd98 : m_kd jKD 98 = 48 := by decide +kernel
theorem kd99 : m_kd jKD 99 = 49 := by decide +kernel
theorem kd100 : m_kd jKD 100 = 50 := by decide +kernel
theorem kd101 : m_kd jKD 101 = 51 := by decide +kernel
theorem kd102 : m_kd jKD 102 = 52 := by decide +kernel
theorem kd103 : m_kd jKD 103 = 53 := by decide +kernel
theorem kd104 : m_kd jKD 104 = 35 := by decide +kernel
theorem kd105 : m_kd jKD 105 = 36 := by decide +kernel
theorem kd106 : m_kd jKD 106 = 37 := by decide +kernel
theorem kd107 : m_kd jKD 107 = 38 := by decide +kernel
theorem kd108 : m_kd jKD 108 = 39 := by decide +kernel
theorem kd109 : m_kd jKD 109 = 35 := by decide +kernel
theorem kd110 : m_kd jKD 110 = 36 := by decide +kernel
theorem kd111 : m_kd jKD 111 = 37 := by decide +kernel
theorem kd112 : m_kd jKD 112 = 38 := by decide +kernel
theorem kd113 : m_kd jKD 113 = 39 := by decide +kernel
theorem kd114 : m_kd jKD 114 = 54 := by decide +kernel
theorem kd115 : m_kd jKD 115 = 55 := by decide +kernel
theorem kd116 : m_kd jKD 116 = 56 := by decide +kernel
theorem kd117 : m_kd jKD 117 = 57 := by decide +kernel
theorem kd118 : m_kd jKD 118 = 58 := by decide +kernel
theorem kd119 : m_kd jKD 119 = 59 := by decide +kernel
theorem kd120 : m_kd jKD 120 = 60 := by decide +kernel
theorem kd121 : m_kd jKD 121 = 61 := by decide +kernel
theorem kd122 : m_kd jKD 122 = 62 := by decide +kernel
theorem kd123 : m_kd jKD 123 = 63 := by decide +kernel
theorem kd124 : m_kd jKD 124 = 64 := by decide +kernel
theorem kd125 : m_kd jKD 125 = 65 := by decide +kernel
theorem kd126 : m_kd jKD 126 = 66 := by decide +kernel
theorem kd127 : m_kd jKD 127 = 67 := by decide +kernel
theorem kd128 : m_kd jKD 128 = 68 := by decide +kernel
theorem kd129 : m_kd jKD 129 = 69 := by decide +kernel
theorem kd130 : m_kd jKD 130 = 70 := by decide +kernel
theorem kd131 : m_kd jKD 131 = 71 := by decide +kernel
theorem kd132 : m_kd jKD 132 = 72 := by decide +kernel
theorem kd133 : m_kd jKD 133 = 73 := by decide +kernel
theorem kd134 : m_kd jKD 134 = 74 := by decide +kernel
theorem kd135 : m_kd jKD 135 = 75 := by decide +kernel
theorem kd136 : m_kd jKD 136 = 76 := by decide +kernel
theorem kd137 : m_kd jKD 137 = 77 := by decide +kernel
theorem kd138 : m_kd jKD 138 = 78 := by decide +kernel
theorem kd139 : m_kd jKD 139 = 79 := by decide +kernel
theorem kd140 : m_kd jKD 140 = 80 := by decide +kernel
theorem kd141 : m_kd jKD 141 = 81 := by decide +kernel
theorem kd142 : m_kd jKD 142 = 82 := by decide +kernel
theorem kd143 : m_kd jKD 143 = 83 := by decide +kernel
theorem kd144 : m_kd jKD 144 = 84 := by decide +kernel
theorem kd145 : m_kd jKD 145 = 85 := by decide +kernel
theorem kd146 : m_kd jKD 146 = 86 := by decide +kernel
theorem kd147 : m_kd jKD 147 = 87 := by decide +kernel
theorem kd148 : m_kd jKD 148 = 88 := by decide +kernel
theorem kd149 : m_kd jKD 149 = 89 := by decide +kernel
theorem kd150 : m_kd jKD 150 = 90 := by decide +kernel
theorem kd151 : m_kd jKD 151 = 91 := by decide +kernel
theorem kd152 : m_kd jKD 152 = 92 := by decide +kernel
theorem kd153 : m_kd jKD 153 = 93 := by decide +kernel
theorem kd154 : m_kd jKD 154 = 94 := by decide +kernel
theorem kd155 : m_kd jKD 155 = 95 := by decide +kernel
theorem kd156 : m_kd jKD 156 = 96 := by decide +kernel
theorem kd157 : m_kd jKD 157 = 97 := by decide +kernel
theorem kd158 : m_kd jKD 158 = 98 := by decide +kernel
theorem kd159 : m_kd jKD 159 = 99 := by decide +kernel
theorem kd160 : m_kd jKD 160 = 100 := by decide +kernel
theorem kd161 : m_kd jKD 161 = 101 := by decide +kernel
theorem kd162 : m_kd jKD 162 = 102 := by decide +kernel
theorem kd163 : m_kd jKD 163 = 103 := by decide +kernel
theorem kd164 : m_kd jKD 164 = 104 := by decide +kernel
theorem kd165 : m_kd jKD 165 = 105 := by decide +kernel
theorem kd166 : m_kd jKD 166 = 106 := by decide +kernel
theorem kd167 : m_kd jKD 167 = 107 := by decide +kernel
theorem kd168 : m_kd jKD 168 = 108 := by decide +kernel
theorem kd169 : m_kd jKD 169 = 109 := by decide +kernel
theorem kd170 : m_kd jKD 170 = 110 := by decide +kernel
theorem kd171 : m_kd jKD 171 = 111 := by decide +kernel
theorem kd172 : m_kd jKD 172 = 112 := by decide +kernel
theorem kd173 : m_kd jKD 173 = 113 := by decide +kernel
theorem kd174 : m_kd jKD 174 = 114 := by decide +kernel
theorem kd175 : m_kd jKD 175 = 115 := by decide +kernel
theorem kd176 : m_kd jKD 176 = 116 := by decide +kernel
theorem kd177 : m_kd jKD 177 = 117 := by decide +kernel
theorem kd178 : m_kd jKD 178 = 118 := by decide +kernel
theorem kd179 : m_kd jKD 179 = 119 := by decide +kernel
theorem cw120 : m_kd jKD 120 ≠ 0 ∧ m_qa (jSK (m_kd jKD 120)) 2 3 = true := by decide +kernel
theorem cw121 : m_kd jKD 121 ≠ 0 ∧ m_qa (jSK (m_kd jKD 121)) 2 4 = true := by decide +kernel
theorem cw122 : m_kd jKD 122 ≠ 0 ∧ m_qa (jSK (m_kd jKD 122)) 2 4 = true := by decide +kernel
theorem cw123 : m_kd jKD 123 ≠ 0 ∧ m_qa (jSK (m_kd jKD 123)) 2 4 = true := by decide +kernel
theorem cw124 : m_kd jKD 124 ≠ 0 ∧ m_qa (jSK (m_kd jKD 124)) 2 5 = true := by decide +kernel
theorem cw125 : m_kd jKD 125 ≠ 0 ∧ m_qa (jSK (m_kd jKD 125)) 2 5 = true := by decide +kernel
theorem cw126 : m_kd jKD 126 ≠ 0 ∧ m_qa (jSK (m_kd jKD 126)) 2 5 = true := by decide +kernel
theorem cw127 : m_kd jKD 127 ≠ 0 ∧ m_qa (jSK (m_kd jKD 127)) 2 4 = true := by decide +kernel
theorem cw128 : m_kd jKD 128 ≠ 0 ∧ m_qa (jSK (m_kd jKD 128)) 2 5 = true := by decide +kernel
theorem cw129 : m_kd jKD 129 ≠ 0 ∧ m_qa (jSK (m_kd jKD 129)) 2 6 = true := by decide +kernel
theorem cw130 : m_kd jKD 130 ≠ 0 ∧ m_qa (jSK (m_kd jKD 130)) 2 6 = true := by decide +kernel
theorem cw131 : m_kd jKD 131 ≠ 0 ∧ m_qa (jSK (m_kd jKD 131)) 2 4 = true := by decide +kernel
theorem cw132 : m_kd jKD 132 ≠ 0 ∧ m_qa (jSK (m_kd jKD 132)) 2 3 = true := by decide +kernel
theorem cw133 : m_kd jKD 133 ≠ 0 ∧ m_qa (jSK (m_kd jKD 133)) 2 5 = true := by decide +kernel
theorem cw134 : m_kd jKD 134 ≠ 0 ∧ m_qa (jSK (m_kd jKD 134)) 2 3 = true := by decide +kernel
theorem cw135 : m_kd jKD 135 ≠ 0 ∧ m_qa (jSK (m_kd jKD 135)) 2 2 = true := by decide +kernel
theorem cw136 : m_kd jKD 136 ≠ 0 ∧ m_qa (jSK (m_kd jKD 136)) 2 3 = true := by decide +kernel
theorem cw137 : m_kd jKD 137 ≠ 0 ∧ m_qa (jSK (m_kd jKD 137)) 2 6 = true := by decide +kernel
theorem cw157 : m_kd jKD 157 ≠ 0 ∧ m_qa (jSK (m_kd jKD 157)) 2 5 = true := by decide +kernel
theorem cw158 : m_kd jKD 158 ≠ 0 ∧ m_qa (jSK (m_kd jKD 158)) 2 4 = true := by decide +kernel
theorem cw159 : m_kd jKD 159 ≠ 0 ∧ m_qa (jSK (m_kd jKD 159)) 2 5 = true := by decide +kernel
theorem cw160 : m_kd jKD 160 ≠ 0 ∧ m_qa (jSK (m_kd jKD 160)) 2 5 = true := by decide +kernel
theorem cw161 : m_kd jKD 161 ≠ 0 ∧ m_qa (jSK (m_kd jKD 161)) 2 4 = true := by decide +kernel
theorem cw162 : m_kd jKD 162 ≠ 0 ∧ m_qa (jSK (m_kd jKD 162)) 2 5 = true := by decide +kernel
theorem cw163 : m_kd jKD 163 ≠ 0 ∧ m_qa (jSK (m_kd jKD 163)) 2 3 = true := by decide +kernel
theorem cw164 : m_kd jKD 164 ≠ 0 ∧ m_qa (jSK (m_kd jKD 164)) 2 3 = true := by decide +kernel
theorem cw165 : m_kd jKD 165 ≠ 0 ∧ m_qa (jSK (m_kd jKD 165)) 2 2 = true := by decide +kernel
theorem cw166 : m_kd jKD 166 ≠ 0 ∧ m_qa (jSK (m_kd jKD 166)) 2 3 = true := by decide +kernel
theorem cw167 : m_kd jKD 167 ≠ 0 ∧ m_qa (jSK (m_kd jKD 167)) 2 3 = true := by decide +kernel
theorem cw168 : m_kd jKD 168 ≠ 0 ∧ m_qa (jSK (m_kd jKD 168)) 2 3 = true := by decide +kernel
theorem cw169 : m_kd jKD 169 ≠ 0 ∧ m_qa (jSK (m_kd jKD 169)) 2 4 = true := by decide +kernel
theorem cw170 : m_kd jKD 170 ≠ 0 ∧ m_qa (jSK (m_kd jKD 170)) 2 3 = true := by decide +kernel
theorem cw171 : m_kd jKD 171 ≠ 0 ∧ m_qa (jSK (m_kd jKD 171)) 2 4 = true := by decide +kernel
theorem cw172 : m_kd jKD 172 ≠ 0 ∧ m_qa (jSK (m_kd jKD 172)) 2 4 = true := by decide +kernel
theorem cw173 : m_kd jKD 173 ≠ 0 ∧ m_qa (jSK (m_kd jKD 173)) 2 3 = true := by decide +kernel
theorem cw174 : m_kd jKD 174 ≠ 0 ∧ m_qa (jSK (m_kd jKD 174)) 2 5 = true := by decide +kernel
theorem cw175 : m_kd jKD 175 ≠ 0 ∧ m_qa (jSK (m_kd jKD 175)) 2 5 = true := by decide +kernel
theorem jOld_len : jOld.length = 9 := rfl
