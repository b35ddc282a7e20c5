def sCp (σ τ : zS) (b p s g t1 t2 t3 t4 b' p' s' g' t1' t2' t3' t4' : Int) : Prop := (∀ j : Int, 7 ≤ j → j ≤ 13 → τ b j = σ b' j) ∧ (∀ j : Int, 0 ≤ j → j < 24 → τ s j = σ s' j) ∧ (∀ j : Int, 0 ≤ j → j < 24 → τ g j = σ g' j) ∧ (∀ j : Int, 0 ≤ j → j < 6 → τ t1 j = σ t1' j) ∧ (∀ j : Int, 0 ≤ j → j < 6 → τ t2 j = σ t2' j) ∧ (∀ j : Int, 0 ≤ j → j < 6 → τ t3 j = σ t3' j) ∧ (∀ j : Int, 0 ≤ j → j < 6 → τ t4 j = σ t4' j) ∧ ∀ r j : Int, 0 ≤ r → r ≤ 3 → 0 ≤ j → j ≤ 4 → τ (p + r) j = σ (p' + r) j
theorem sOK_t {σ τ : zS} {b p s g t1 t2 t3 t4 b' p' s' g' t1' t2' t3' t4' : Int} (h : sOK σ b' p' s' g' t1' t2' t3' t4') (c : sCp σ τ b p s g t1 t2 t3 t4 b' p' s' g' t1' t2' t3' t4') : sOK τ b p s g t1 t2 t3 t4 := by
  obtain ⟨h1, h2, h3, h4, h5⟩ := h
  obtain ⟨c1, c2, c3, c4, c5, c6, c7, c8⟩ := c
  refine ⟨fun r a d => ?_, ?_, fun i a d => ?_, fun i a d => ?_, fun i a d => ?_⟩
  · rw [c8 r 0 a d (by decide) (by decide), c8 r 1 a d (by decide) (by decide), c8 r 2 a d (by decide) (by decide), c8 r 3 a d (by decide) (by decide), c8 r 4 a d (by decide) (by decide)]
    exact h1 r a d
  · rw [c1 7 (by decide) (by decide), c1 8 (by decide) (by decide), c1 9 (by decide) (by decide), c1 10 (by decide) (by decide), c1 11 (by decide) (by decide), c1 12 (by decide) (by decide), c1 13 (by decide) (by decide)]
    exact h2
  · rw [c2 i a d, c3 i a d]; exact h3 i a d
  · rw [c1 12 (by decide) (by decide)] at d
    rw [c2 i a (by omega), c3 i a (by omega)]; exact h4 i a d
  · rw [c4 i a d, c5 i a d, c6 i a d, c7 i a d]; exact h5 i a d
theorem sKv_t {σ τ : zS} {b p s g t1 t2 t3 t4 b' p' s' g' t1' t2' t3' t4' : Int} (c : sCp σ τ b p s g t1 t2 t3 t4 b' p' s' g' t1' t2' t3' t4') {i : Int} (hi : 0 ≤ i ∧ i < 72) : sKv τ b p s t1 t2 t3 t4 i = sKv σ b' p' s' t1' t2' t3' t4' i := by
  obtain ⟨c1, c2, c3, c4, c5, c6, c7, c8⟩ := c
  have z0 := c8 0 0 (by decide) (by decide) (by decide) (by decide)
  rw [Int.add_zero, Int.add_zero] at z0
  unfold sKv
  rw [z0, c8 1 0 (by decide) (by decide) (by decide) (by decide), c8 2 0 (by decide) (by decide) (by decide) (by decide), c8 3 0 (by decide) (by decide) (by decide) (by decide), c1 7 (by decide) (by decide), c1 8 (by decide) (by decide), c1 9 (by decide) (by decide), c1 10 (by decide) (by decide), c1 11 (by decide) (by decide), c1 12 (by decide) (by decide), c1 13 (by decide) (by decide)]
  by_cases h1 : i < 8
  · rw [if_pos h1, if_pos h1]
  · rw [if_neg h1, if_neg h1]
    by_cases h2 : i < 24
    · rw [if_pos h2, if_pos h2, c8 _ _ (by omega) (by omega) (by omega) (by omega)]
    · rw [if_neg h2, if_neg h2]
      by_cases h3 : i < 48
      · rw [if_pos h3, if_pos h3, c2 _ (by omega) (by omega)]
      · rw [if_neg h3, if_neg h3, c4 _ (by omega) (by omega), c5 _ (by omega) (by omega), c6 _ (by omega) (by omega), c7 _ (by omega) (by omega)]
theorem jKv_c {σ τ : zS} (f : ∀ c : Int, 100 ≤ c → τ c = σ c) {i : Int} (hi : 0 ≤ i ∧ i < 72) : jKv τ i = jKv σ i := by
  have := jP_b hi
  unfold jKv
  rw [f _ (by omega)]
theorem jKs (σ : zS) {i : Int} (h : 0 ≤ i) : (i ≤ 3 → jKv σ (8 + 4 * i) = σ 101 i ∧ jKv σ (8 + 4 * i + 1) = σ 102 i ∧ jKv σ (8 + 4 * i + 2) = σ 103 i ∧ jKv σ (8 + 4 * i + 3) = σ 104 i) ∧ (i < 24 → jKv σ (24 + i) = σ 105 i) ∧ (i < 6 → jKv σ (48 + 4 * i) = σ 106 i ∧ jKv σ (48 + 4 * i + 1) = σ 107 i ∧ jKv σ (48 + 4 * i + 2) = σ 108 i ∧ jKv σ (48 + 4 * i + 3) = σ 109 i) := by
  have k : ∀ (n c j : Int), jPc n = c → jPj n = j → jKv σ n = σ c j := fun n c j a b => by unfold jKv; rw [a, b]
  refine ⟨fun q => ⟨k _ _ _ (by unfold jPc; omega) (by unfold jPj; omega), k _ _ _ (by unfold jPc; omega) (by unfold jPj; omega), k _ _ _ (by unfold jPc; omega) (by unfold jPj; omega), k _ _ _ (by unfold jPc; omega) (by unfold jPj; omega)⟩, fun q => k _ _ _ (by unfold jPc; omega) (by unfold jPj; omega), fun q => ⟨k _ _ _ (by unfold jPc; omega) (by unfold jPj; omega), k _ _ _ (by unfold jPc; omega) (by unfold jPj; omega), k _ _ _ (by unfold jPc; omega) (by unfold jPj; omega), k _ _ _ (by unfold jPc; omega) (by unfold jPj; omega)⟩⟩
theorem sKs (σ : zS) (b p s t1 t2 t3 t4 : Int) {i : Int} (h : 0 ≤ i) : (i ≤ 3 → sKv σ b p s t1 t2 t3 t4 (8 + 4 * i) = σ (p + i) 1 ∧ sKv σ b p s t1 t2 t3 t4 (8 + 4 * i + 1) = σ (p + i) 2 ∧ sKv σ b p s t1 t2 t3 t4 (8 + 4 * i + 2) = σ (p + i) 3 ∧ sKv σ b p s t1 t2 t3 t4 (8 + 4 * i + 3) = σ (p + i) 4) ∧ (i < 24 → sKv σ b p s t1 t2 t3 t4 (24 + i) = σ s i) ∧ (i < 6 → sKv σ b p s t1 t2 t3 t4 (48 + 4 * i) = σ t1 i ∧ sKv σ b p s t1 t2 t3 t4 (48 + 4 * i + 1) = σ t2 i ∧ sKv σ b p s t1 t2 t3 t4 (48 + 4 * i + 2) = σ t3 i ∧ sKv σ b p s t1 t2 t3 t4 (48 + 4 * i + 3) = σ t4 i) := by
  have r : ∀ n q : Int, 8 ≤ n → n < 24 → (n - 8) / 4 = i → 1 + (n - 8) % 4 = q → sKv σ b p s t1 t2 t3 t4 n = σ (p + i) q := fun n q a c d e => by unfold sKv; rw [if_neg (by omega), if_pos c, d, e]
  have t : ∀ n : Int, 48 ≤ n → (n - 48) / 4 = i → sKv σ b p s t1 t2 t3 t4 n = if (n - 48) % 4 = 0 then σ t1 i else if (n - 48) % 4 = 1 then σ t2 i else if (n - 48) % 4 = 2 then σ t3 i else σ t4 i := fun n a d => by unfold sKv; rw [if_neg (by omega), if_neg (by omega), if_neg (by omega), d]
  refine ⟨fun q => ⟨r _ _ (by omega) (by omega) (by omega) (by omega), r _ _ (by omega) (by omega) (by omega) (by omega), r _ _ (by omega) (by omega) (by omega) (by omega), r _ _ (by omega) (by omega) (by omega) (by omega)⟩, fun q => ?_, fun q => ⟨?_, ?_, ?_, ?_⟩⟩
  · unfold sKv
    rw [if_neg (by omega), if_neg (by omega), if_pos (by omega), show 24 + i - 24 = i by omega]
  · rw [t _ (by omega) (by omega), if_pos (by omega)]
  · rw [t _ (by omega) (by omega), if_neg (by omega), if_pos (by omega)]
  · rw [t _ (by omega) (by omega), if_neg (by omega), if_neg (by omega), if_pos (by omega)]
  · rw [t _ (by omega) (by omega), if_neg (by omega), if_neg (by omega), if_neg (by omega)]
theorem jEq_k {σ : zS} (h : jEq σ) {i : Int} (hi : 0 ≤ i ∧ i < 72) : jKv σ i = sKv σ 32 40 34 36 37 38 39 i := by
  obtain ⟨h1, h2, h3, h4⟩ := h
  by_cases c1 : i < 8
  · have c : i = 0 ∨ i = 1 ∨ i = 2 ∨ i = 3 ∨ i = 4 ∨ i = 5 ∨ i = 6 ∨ i = 7 := by omega
    rcases c with rfl | rfl | rfl | rfl | rfl | rfl | rfl | rfl
    · exact h2.1
    · exact h2.2.1
    · exact h2.2.2.1
    · exact h2.2.2.2.1
    · exact h2.2.2.2.2.1
    · exact h2.2.2.2.2.2.1
    · exact h2.2.2.2.2.2.2.1
    · exact h2.2.2.2.2.2.2.2
  · by_cases c2 : i < 24
    · have a := (jKs σ (i := (i - 8) / 4) (by omega)).1 (by omega)
      have b := (sKs σ 32 40 34 36 37 38 39 (i := (i - 8) / 4) (by omega)).1 (by omega)
      have g := h1 ((i - 8) / 4) (by omega) (by omega)
      have c : i = 8 + 4 * ((i - 8) / 4) ∨ i = 8 + 4 * ((i - 8) / 4) + 1 ∨ i = 8 + 4 * ((i - 8) / 4) + 2 ∨ i = 8 + 4 * ((i - 8) / 4) + 3 := by omega
      rcases c with c | c | c | c
      · rw [c, a.1, b.1, g.1]
      · rw [c, a.2.1, b.2.1, g.2.1]
      · rw [c, a.2.2.1, b.2.2.1, g.2.2.1]
      · rw [c, a.2.2.2, b.2.2.2, g.2.2.2]
    · by_cases c3 : i < 48
      · have a := (jKs σ (i := i - 24) (by omega)).2.1 (by omega)
        have b := (sKs σ 32 40 34 36 37 38 39 (i := i - 24) (by omega)).2.1 (by omega)
        rw [show i = 24 + (i - 24) by omega, a, b]
        exact h3 _ (by omega) (by omega)
      · have a := (jKs σ (i := (i - 48) / 4) (by omega)).2.2 (by omega)
        have b := (sKs σ 32 40 34 36 37 38 39 (i := (i - 48) / 4) (by omega)).2.2 (by omega)
        have g := h4 ((i - 48) / 4) (by omega) (by omega)
        have c : i = 48 + 4 * ((i - 48) / 4) ∨ i = 48 + 4 * ((i - 48) / 4) + 1 ∨ i = 48 + 4 * ((i - 48) / 4) + 2 ∨ i = 48 + 4 * ((i - 48) / 4) + 3 := by omega
        rcases c with c | c | c | c
        · rw [c, a.1, b.1, g.1]
        · rw [c, a.2.1, b.2.1, g.2.1]
        · rw [c, a.2.2.1, b.2.2.1, g.2.2.1]
        · rw [c, a.2.2.2, b.2.2.2, g.2.2.2]
theorem jEq_m {σ : zS} (h : ∀ i : Int, 0 ≤ i → i < 72 → jKv σ i = sKv σ 32 40 34 36 37 38 39 i) : jEq σ := by
  refine ⟨fun r a b => ?_, ⟨h 0 (by decide) (by decide), h 1 (by decide) (by decide), h 2 (by decide) (by decide), h 3 (by decide) (by decide), h 4 (by decide) (by decide), h 5 (by decide) (by decide), h 6 (by decide) (by decide), h 7 (by decide) (by decide)⟩, fun i a b => ?_, fun i a b => ?_⟩
  · have x := (jKs σ (i := r) a).1 b
    have y := (sKs σ 32 40 34 36 37 38 39 (i := r) a).1 b
    rw [← x.1, ← x.2.1, ← x.2.2.1, ← x.2.2.2, ← y.1, ← y.2.1, ← y.2.2.1, ← y.2.2.2]
    exact ⟨h _ (by omega) (by omega), h _ (by omega) (by omega), h _ (by omega) (by omega), h _ (by omega) (by omega)⟩
  · rw [← (jKs σ (i := i) a).2.1 b, ← (sKs σ 32 40 34 36 37 38 39 (i := i) a).2.1 b]
    exact h _ (by omega) (by omega)
  · have x := (jKs σ (i := i) a).2.2 b
    have y := (sKs σ 32 40 34 36 37 38 39 (i := i) a).2.2 b
    rw [← x.1, ← x.2.1, ← x.2.2.1, ← x.2.2.2, ← y.1, ← y.2.1, ← y.2.2.1, ← y.2.2.2]
    exact ⟨h _ (by omega) (by omega), h _ (by omega) (by omega), h _ (by omega) (by omega), h _ (by omega) (by omega)⟩
theorem fr_image_0 {σ τ : zS} {r1 : Int} (p : r1 = 1 ∧ τ 2 0 = 1 ∧ τ 2 1 = σ 2 1 ∧ (∀ k : Int, k ≠ 2 → (k < 48 ∨ 59 < k) → τ k = σ k) ∧ (∀ j : Int, 7 ≤ j → j ≤ 13 → τ 48 j = σ 32 j) ∧ (∀ j : Int, 0 ≤ j → j < 24 → τ 50 j = σ 34 j) ∧ (∀ j : Int, 0 ≤ j → j < 24 → τ 51 j = σ 35 j) ∧ (∀ j : Int, 0 ≤ j → j < 6 → τ 52 j = σ 36 j) ∧ (∀ j : Int, 0 ≤ j → j < 6 → τ 53 j = σ 37 j) ∧ (∀ j : Int, 0 ≤ j → j < 6 → τ 54 j = σ 38 j) ∧ (∀ j : Int, 0 ≤ j → j < 6 → τ 55 j = σ 39 j) ∧ (∀ j : Int, 0 ≤ j → j ≤ 4 → τ 56 j = σ 40 j) ∧ (∀ j : Int, 0 ≤ j → j ≤ 4 → τ 57 j = σ 41 j) ∧ (∀ j : Int, 0 ≤ j → j ≤ 4 → τ 58 j = σ 42 j) ∧ (∀ j : Int, 0 ≤ j → j ≤ 4 → τ 59 j = σ 43 j)) : ∀ c : Int, 100 ≤ c → τ c = σ c := fun c hc => p.2.2.2.1 c (by omega) (by omega)
theorem st_image_0 {σ τ υ : zS} {r1 r2 : Int} (h : jInv σ) (p : r1 = 1 ∧ τ 2 0 = 1 ∧ τ 2 1 = σ 2 1 ∧ (∀ k : Int, k ≠ 2 → (k < 48 ∨ 59 < k) → τ k = σ k) ∧ (∀ j : Int, 7 ≤ j → j ≤ 13 → τ 48 j = σ 32 j) ∧ (∀ j : Int, 0 ≤ j → j < 24 → τ 50 j = σ 34 j) ∧ (∀ j : Int, 0 ≤ j → j < 24 → τ 51 j = σ 35 j) ∧ (∀ j : Int, 0 ≤ j → j < 6 → τ 52 j = σ 36 j) ∧ (∀ j : Int, 0 ≤ j → j < 6 → τ 53 j = σ 37 j) ∧ (∀ j : Int, 0 ≤ j → j < 6 → τ 54 j = σ 38 j) ∧ (∀ j : Int, 0 ≤ j → j < 6 → τ 55 j = σ 39 j) ∧ (∀ j : Int, 0 ≤ j → j ≤ 4 → τ 56 j = σ 40 j) ∧ (∀ j : Int, 0 ≤ j → j ≤ 4 → τ 57 j = σ 41 j) ∧ (∀ j : Int, 0 ≤ j → j ≤ 4 → τ 58 j = σ 42 j) ∧ (∀ j : Int, 0 ≤ j → j ≤ 4 → τ 59 j = σ 43 j)) (q : r2 = 1 ∧ υ 119 0 = 1 ∧ υ 119 1 = τ 119 1 ∧ (∀ i : Int, 0 ≤ i → i < 72 → υ 118 (0 + i) = jKv τ i) ∧ (∀ c j : Int, c ≠ 119 → ¬ (c = 118 ∧ 0 ≤ j ∧ j < 0 + 72) → ¬ (c = 100 ∧ (j = 36 ∨ j = 37)) → υ c j = τ c j)) : r1 = r2 ∧ jInv υ := by
  obtain ⟨p1, p2, p3, p4, p5⟩ := p
  obtain ⟨q1, q2, q3, q4, q5⟩ := q
  have t0 : ∀ c : Int, 100 ≤ c → τ c = σ c := fun c hc => p4 c (by omega) (by omega)
  have u0 : ∀ c : Int, c ≠ 119 → c ≠ 118 → c ≠ 100 → υ c = τ c := fun c a b d => funext fun j => q5 c j a (by omega) (by omega)
  have u1 : ∀ c : Int, c ≠ 2 → c ≠ 119 → c ≠ 118 → c ≠ 100 → (c < 48 ∨ 59 < c) → υ c = σ c := fun c a b d e g => by rw [u0 c b d e, p4 c a g]
  have u2 : ∀ j : Int, j ≤ 18 → υ 100 j = σ 100 j := fun j a => by rw [q5 100 j (by decide) (by omega) (by omega), t0 100 (by decide)]
  have cp : sCp σ τ 48 56 50 51 52 53 54 55 32 40 34 35 36 37 38 39 := by
    refine ⟨p5.1, p5.2.1, p5.2.2.1, p5.2.2.2.1, p5.2.2.2.2.1, p5.2.2.2.2.2.1, p5.2.2.2.2.2.2.1, fun r j r0 r3 j0 j4 => ?_⟩
    have c : r = 0 ∨ r = 1 ∨ r = 2 ∨ r = 3 := by omega
    rcases c with rfl | rfl | rfl | rfl
    · exact p5.2.2.2.2.2.2.2.1 j j0 j4
    · exact p5.2.2.2.2.2.2.2.2.1 j j0 j4
    · exact p5.2.2.2.2.2.2.2.2.2.1 j j0 j4
    · exact p5.2.2.2.2.2.2.2.2.2.2 j j0 j4
  have cu : sCp σ υ 48 56 50 51 52 53 54 55 32 40 34 35 36 37 38 39 := by
    obtain ⟨a1, a2, a3, a4, a5, a6, a7, a8⟩ := cp
    refine ⟨?_, ?_, ?_, ?_, ?_, ?_, ?_, fun r j r0 r3 j0 j4 => ?_⟩
    · rw [u0 48 (by decide) (by decide) (by decide)]; exact a1
    · rw [u0 50 (by decide) (by decide) (by decide)]; exact a2
    · rw [u0 51 (by decide) (by decide) (by decide)]; exact a3
    · rw [u0 52 (by decide) (by decide) (by decide)]; exact a4
    · rw [u0 53 (by decide) (by decide) (by decide)]; exact a5
    · rw [u0 54 (by decide) (by decide) (by decide)]; exact a6
    · rw [u0 55 (by decide) (by decide) (by decide)]; exact a7
    · rw [u0 (56 + r) (by omega) (by omega) (by omega)]; exact a8 r j r0 r3 j0 j4
  have h22 := u0 2 (by decide) (by decide) (by decide)
  have n1 : sIm υ 0 48 56 50 51 52 53 54 55 := by
    refine ⟨by rw [h22, p2]; exact Or.inr rfl, by rw [h22, p2, q2], fun k a b => ?_, fun _ => ⟨sOK_t h.1 cu, fun i a b => ?_⟩⟩
    · have g := cu.2.2.2.2.2.2.2 (k - 56) 0 (by omega) (by omega) (by decide) (by decide)
      rw [show 56 + (k - 56) = k by omega] at g
      rw [g]
      exact (h.1.1 (k - 56) (by omega) (by omega)).1
    · have g := q4 i a b
      rw [show (80 : Int) * 0 = 0 from rfl, g, jKv_c t0 ⟨a, b⟩, jEq_k h.2.2.1 ⟨a, b⟩, sKv_t cu ⟨a, b⟩]
  have n2 : sIm υ 1 64 72 66 67 68 69 70 71 := sIm_c h.2.2.2.2.2.1 (fun c hc => u1 c (by omega) (by omega) (by omega) (by omega) (by omega)) (by rw [h22, p3]) (by rw [q3, t0 119 (by decide)]) (fun i a b => by rw [q5 118 _ (by decide) (by omega) (by omega), t0 118 (by decide)])
  refine ⟨p1.trans q1.symm, sOK_c h.1 (fun c hc => u1 c (by omega) (by omega) (by omega) (by omega) (by omega)), pOK_c h.2.1 (u1 3 (by decide) (by decide) (by decide) (by decide) (by decide)) (u1 4 (by decide) (by decide) (by decide) (by decide) (by decide)), jEq_m (fun i a b => ?_), ?_, n1, n2, kBf_c h.2.2.2.2.2.2.1 (by rw [u1 15 (by decide) (by decide) (by decide) (by decide) (by decide)]; exact ⟨rfl, rfl⟩) (u1 21 (by decide) (by decide) (by decide) (by decide) (by decide)) (u1 22 (by decide) (by decide) (by decide) (by decide) (by decide)), ?_, ?_⟩
  · have e1 : jKv υ i = jKv σ i := by
      have pb := jP_b (i := i) ⟨a, b⟩
      unfold jKv
      by_cases c : jPc i = 100
      · rw [c, u2 _ (by omega)]
      · rw [u1 (jPc i) (by omega) (by omega) (by omega) c (by omega)]
    rw [e1, jEq_k h.2.2.1 ⟨a, b⟩]
    exact (sKv_c (fun c hc => u1 c (by omega) (by omega) (by omega) (by omega) (by omega)) ⟨a, b⟩).symm
  · unfold pEq
    rw [u2 18 (by decide), u1 110 (by decide) (by decide) (by decide) (by decide) (by decide), u1 3 (by decide) (by decide) (by decide) (by decide) (by decide), u1 4 (by decide) (by decide) (by decide) (by decide) (by decide)]
    exact h.2.2.2.1
  · unfold kCb
    rw [u1 15 (by decide) (by decide) (by decide) (by decide) (by decide)]
    exact h.2.2.2.2.2.2.2.1
  · unfold jBd
    rw [u1 115 (by decide) (by decide) (by decide) (by decide) (by decide)]
    exact h.2.2.2.2.2.2.2.2
theorem fr_restore_0 {σ τ : zS} {r1 : Int} (h : σ 2 0 = 0 ∨ σ 2 0 = 1) (p : (σ 2 0 = 0 → r1 = -3 ∧ τ = σ) ∧ (σ 2 0 = 1 → r1 = 1 ∧ (∀ k : Int, (k < 32 ∨ 43 < k) → τ k = σ k) ∧ (∀ j : Int, 7 ≤ j → j ≤ 13 → τ 32 j = σ 48 j) ∧ (∀ j : Int, 0 ≤ j → j < 24 → τ 34 j = σ 50 j) ∧ (∀ j : Int, 0 ≤ j → j < 24 → τ 35 j = σ 51 j) ∧ (∀ j : Int, 0 ≤ j → j < 6 → τ 36 j = σ 52 j) ∧ (∀ j : Int, 0 ≤ j → j < 6 → τ 37 j = σ 53 j) ∧ (∀ j : Int, 0 ≤ j → j < 6 → τ 38 j = σ 54 j) ∧ (∀ j : Int, 0 ≤ j → j < 6 → τ 39 j = σ 55 j) ∧ (∀ j : Int, 0 ≤ j → j ≤ 4 → τ 40 j = σ 56 j) ∧ (∀ j : Int, 0 ≤ j → j ≤ 4 → τ 41 j = σ 57 j) ∧ (∀ j : Int, 0 ≤ j → j ≤ 4 → τ 42 j = σ 58 j) ∧ (∀ j : Int, 0 ≤ j → j ≤ 4 → τ 43 j = σ 59 j))) : ∀ c : Int, 100 ≤ c → τ c = σ c := fun c hc => by
  rcases h with h | h
  · rw [(p.1 h).2]
  · exact (p.2 h).2.1 c (by omega)
theorem st_restore_0 {σ τ υ : zS} {r1 r2 : Int} (h : jInv σ) (p : (σ 2 0 = 0 → r1 = -3 ∧ τ = σ) ∧ (σ 2 0 = 1 → r1 = 1 ∧ (∀ k : Int, (k < 32 ∨ 43 < k) → τ k = σ k) ∧ (∀ j : Int, 7 ≤ j → j ≤ 13 → τ 32 j = σ 48 j) ∧ (∀ j : Int, 0 ≤ j → j < 24 → τ 34 j = σ 50 j) ∧ (∀ j : Int, 0 ≤ j → j < 24 → τ 35 j = σ 51 j) ∧ (∀ j : Int, 0 ≤ j → j < 6 → τ 36 j = σ 52 j) ∧ (∀ j : Int, 0 ≤ j → j < 6 → τ 37 j = σ 53 j) ∧ (∀ j : Int, 0 ≤ j → j < 6 → τ 38 j = σ 54 j) ∧ (∀ j : Int, 0 ≤ j → j < 6 → τ 39 j = σ 55 j) ∧ (∀ j : Int, 0 ≤ j → j ≤ 4 → τ 40 j = σ 56 j) ∧ (∀ j : Int, 0 ≤ j → j ≤ 4 → τ 41 j = σ 57 j) ∧ (∀ j : Int, 0 ≤ j → j ≤ 4 → τ 42 j = σ 58 j) ∧ (∀ j : Int, 0 ≤ j → j ≤ 4 → τ 43 j = σ 59 j))) (q : (τ 119 0 = 0 → r2 = -3 ∧ υ = τ) ∧ (τ 119 0 = 1 → r2 = 1 ∧ (∀ i : Int, 0 ≤ i → i < 72 → jKv υ i = τ 118 (0 + i)) ∧ (∀ c j : Int, (c < 100 ∨ 109 < c ∨ (c = 100 ∧ 16 < j ∧ j ≠ 36 ∧ j ≠ 37)) → υ c j = τ c j))) : r1 = r2 ∧ jInv υ := by
  have hI := h.2.2.2.2.1
  obtain ⟨i1, i2, i3, i4⟩ := hI
  rcases i1 with z | z
  · obtain ⟨p1, rfl⟩ := p.1 z
    obtain ⟨q1, rfl⟩ := q.1 (by rw [i2]; exact z)
    exact ⟨p1.trans q1.symm, h⟩
  · obtain ⟨p1, p4, p5⟩ := p.2 z
    have t0 : ∀ c : Int, 100 ≤ c → τ c = σ c := fun c hc => p4 c (by omega)
    obtain ⟨q1, q4, q5⟩ := q.2 (by rw [t0 119 (by decide), i2]; exact z)
    obtain ⟨s1, s2⟩ := i4 z
    have u0 : ∀ c : Int, (c < 100 ∨ 109 < c) → υ c = τ c := fun c a => funext fun j => q5 c j (by omega)
    have u1 : ∀ c : Int, (c < 32 ∨ 43 < c) → (c < 100 ∨ 109 < c) → υ c = σ c := fun c a b => by rw [u0 c b, p4 c a]
    have cp : sCp σ τ 32 40 34 35 36 37 38 39 48 56 50 51 52 53 54 55 := by
      refine ⟨p5.1, p5.2.1, p5.2.2.1, p5.2.2.2.1, p5.2.2.2.2.1, p5.2.2.2.2.2.1, p5.2.2.2.2.2.2.1, fun r j r0 r3 j0 j4 => ?_⟩
      have c : r = 0 ∨ r = 1 ∨ r = 2 ∨ r = 3 := by omega
      rcases c with rfl | rfl | rfl | rfl
      · exact p5.2.2.2.2.2.2.2.1 j j0 j4
      · exact p5.2.2.2.2.2.2.2.2.1 j j0 j4
      · exact p5.2.2.2.2.2.2.2.2.2.1 j j0 j4
      · exact p5.2.2.2.2.2.2.2.2.2.2 j j0 j4
    have cu : sCp σ υ 32 40 34 35 36 37 38 39 48 56 50 51 52 53 54 55 := by
      obtain ⟨a1, a2, a3, a4, a5, a6, a7, a8⟩ := cp
      refine ⟨?_, ?_, ?_, ?_, ?_, ?_, ?_, fun r j r0 r3 j0 j4 => ?_⟩
      · rw [u0 32 (by decide)]; exact a1
      · rw [u0 34 (by decide)]; exact a2
      · rw [u0 35 (by decide)]; exact a3
      · rw [u0 36 (by decide)]; exact a4
      · rw [u0 37 (by decide)]; exact a5
      · rw [u0 38 (by decide)]; exact a6
      · rw [u0 39 (by decide)]; exact a7
      · rw [u0 (40 + r) (by omega)]; exact a8 r j r0 r3 j0 j4
    have im : ∀ (n b p s g t1 t2 t3 t4 : Int), (44 ≤ b ∧ b < 100) → (44 ≤ p ∧ p < 90) → (44 ≤ s ∧ s < 100) → (44 ≤ g ∧ g < 100) → (44 ≤ t1 ∧ t1 < 100) → (44 ≤ t2 ∧ t2 < 100) → (44 ≤ t3 ∧ t3 < 100) → (44 ≤ t4 ∧ t4 < 100) → sIm σ n b p s g t1 t2 t3 t4 → sIm υ n b p s g t1 t2 t3 t4 := fun n b p s g t1 t2 t3 t4 k1 k2 k3 k4 k5 k6 k7 k8 k => sIm_c k (fun c hc => u1 c (by omega) (by omega)) (by rw [u1 2 (by decide) (by decide)]) (by rw [u1 119 (by decide) (by decide)]) (fun i _ _ => by rw [u1 118 (by decide) (by decide)])
    refine ⟨p1.trans q1.symm, sOK_t s1 cu, pOK_c h.2.1 (u1 3 (by decide) (by decide)) (u1 4 (by decide) (by decide)), jEq_m (fun i a b => ?_), ?_, im _ _ _ _ _ _ _ _ _ (by decide) (by decide) (by decide) (by decide) (by decide) (by decide) (by decide) (by decide) h.2.2.2.2.1, im _ _ _ _ _ _ _ _ _ (by decide) (by decide) (by decide) (by decide) (by decide) (by decide) (by decide) (by decide) h.2.2.2.2.2.1, kBf_c h.2.2.2.2.2.2.1 (by rw [u1 15 (by decide) (by decide)]; exact ⟨rfl, rfl⟩) (u1 21 (by decide) (by decide)) (u1 22 (by decide) (by decide)), ?_, ?_⟩
    · have g := s2 i a b
      rw [show (80 : Int) * 0 = 0 from rfl] at g
      rw [q4 i a b, t0 118 (by decide), g, sKv_t cu ⟨a, b⟩]
    · unfold pEq
      rw [q5 100 18 (by decide), t0 100 (by decide), u1 110 (by decide) (by decide), u1 3 (by decide) (by decide), u1 4 (by decide) (by decide)]
      exact h.2.2.2.1
    · unfold kCb
      rw [u1 15 (by decide) (by decide)]
      exact h.2.2.2.2.2.2.2.1
    · unfold jBd
      rw [u1 115 (by decide) (by decide)]
      exact h.2.2.2.2.2.2.2.2
theorem fr_image_1 {σ τ : zS} {r1 : Int} (p : r1 = 1 ∧ τ 2 1 = 1 ∧ τ 2 0 = σ 2 0 ∧ (∀ k : Int, k ≠ 2 → (k < 64 ∨ 75 < k) → τ k = σ k) ∧ (∀ j : Int, 7 ≤ j → j ≤ 13 → τ 64 j = σ 32 j) ∧ (∀ j : Int, 0 ≤ j → j < 24 → τ 66 j = σ 34 j) ∧ (∀ j : Int, 0 ≤ j → j < 24 → τ 67 j = σ 35 j) ∧ (∀ j : Int, 0 ≤ j → j < 6 → τ 68 j = σ 36 j) ∧ (∀ j : Int, 0 ≤ j → j < 6 → τ 69 j = σ 37 j) ∧ (∀ j : Int, 0 ≤ j → j < 6 → τ 70 j = σ 38 j) ∧ (∀ j : Int, 0 ≤ j → j < 6 → τ 71 j = σ 39 j) ∧ (∀ j : Int, 0 ≤ j → j ≤ 4 → τ 72 j = σ 40 j) ∧ (∀ j : Int, 0 ≤ j → j ≤ 4 → τ 73 j = σ 41 j) ∧ (∀ j : Int, 0 ≤ j → j ≤ 4 → τ 74 j = σ 42 j) ∧ (∀ j : Int, 0 ≤ j → j ≤ 4 → τ 75 j = σ 43 j)) : ∀ c : Int, 100 ≤ c → τ c = σ c := fun c hc => p.2.2.2.1 c (by omega) (by omega)
theorem st_image_1 {σ τ υ : zS} {r1 r2 : Int} (h : jInv σ) (p : r1 = 1 ∧ τ 2 1 = 1 ∧ τ 2 0 = σ 2 0 ∧ (∀ k : Int, k ≠ 2 → (k < 64 ∨ 75 < k) → τ k = σ k) ∧ (∀ j : Int, 7 ≤ j → j ≤ 13 → τ 64 j = σ 32 j) ∧ (∀ j : Int, 0 ≤ j → j < 24 → τ 66 j = σ 34 j) ∧ (∀ j : Int, 0 ≤ j → j < 24 → τ 67 j = σ 35 j) ∧ (∀ j : Int, 0 ≤ j → j < 6 → τ 68 j = σ 36 j) ∧ (∀ j : Int, 0 ≤ j → j < 6 → τ 69 j = σ 37 j) ∧ (∀ j : Int, 0 ≤ j → j < 6 → τ 70 j = σ 38 j) ∧ (∀ j : Int, 0 ≤ j → j < 6 → τ 71 j = σ 39 j) ∧ (∀ j : Int, 0 ≤ j → j ≤ 4 → τ 72 j = σ 40 j) ∧ (∀ j : Int, 0 ≤ j → j ≤ 4 → τ 73 j = σ 41 j) ∧ (∀ j : Int, 0 ≤ j → j ≤ 4 → τ 74 j = σ 42 j) ∧ (∀ j : Int, 0 ≤ j → j ≤ 4 → τ 75 j = σ 43 j)) (q : r2 = 1 ∧ υ 119 1 = 1 ∧ υ 119 0 = τ 119 0 ∧ (∀ i : Int, 0 ≤ i → i < 72 → υ 118 (80 + i) = jKv τ i) ∧ (∀ c j : Int, c ≠ 119 → ¬ (c = 118 ∧ 80 ≤ j ∧ j < 80 + 72) → ¬ (c = 100 ∧ (j = 36 ∨ j = 37)) → υ c j = τ c j)) : r1 = r2 ∧ jInv υ := by
  obtain ⟨p1, p2, p3, p4, p5⟩ := p
  obtain ⟨q1, q2, q3, q4, q5⟩ := q
  have t0 : ∀ c : Int, 100 ≤ c → τ c = σ c := fun c hc => p4 c (by omega) (by omega)
  have u0 : ∀ c : Int, c ≠ 119 → c ≠ 118 → c ≠ 100 → υ c = τ c := fun c a b d => funext fun j => q5 c j a (by omega) (by omega)
  have u1 : ∀ c : Int, c ≠ 2 → c ≠ 119 → c ≠ 118 → c ≠ 100 → (c < 64 ∨ 75 < c) → υ c = σ c := fun c a b d e g => by rw [u0 c b d e, p4 c a g]
  have u2 : ∀ j : Int, j ≤ 18 → υ 100 j = σ 100 j := fun j a => by rw [q5 100 j (by decide) (by omega) (by omega), t0 100 (by decide)]
  have cp : sCp σ τ 64 72 66 67 68 69 70 71 32 40 34 35 36 37 38 39 := by
    refine ⟨p5.1, p5.2.1, p5.2.2.1, p5.2.2.2.1, p5.2.2.2.2.1, p5.2.2.2.2.2.1, p5.2.2.2.2.2.2.1, fun r j r0 r3 j0 j4 => ?_⟩
    have c : r = 0 ∨ r = 1 ∨ r = 2 ∨ r = 3 := by omega
    rcases c with rfl | rfl | rfl | rfl
    · exact p5.2.2.2.2.2.2.2.1 j j0 j4
    · exact p5.2.2.2.2.2.2.2.2.1 j j0 j4
    · exact p5.2.2.2.2.2.2.2.2.2.1 j j0 j4
    · exact p5.2.2.2.2.2.2.2.2.2.2 j j0 j4
  have cu : sCp σ υ 64 72 66 67 68 69 70 71 32 40 34 35 36 37 38 39 := by
    obtain ⟨a1, a2, a3, a4, a5, a6, a7, a8⟩ := cp
    refine ⟨?_, ?_, ?_, ?_, ?_, ?_, ?_, fun r j r0 r3 j0 j4 => ?_⟩
    · rw [u0 64 (by decide) (by decide) (by decide)]; exact a1
    · rw [u0 66 (by decide) (by decide) (by decide)]; exact a2
    · rw [u0 67 (by decide) (by decide) (by decide)]; exact a3
    · rw [u0 68 (by decide) (by decide) (by decide)]; exact a4
    · rw [u0 69 (by decide) (by decide) (by decide)]; exact a5
    · rw [u0 70 (by decide) (by decide) (by decide)]; exact a6
    · rw [u0 71 (by decide) (by decide) (by decide)]; exact a7
    · rw [u0 (72 + r) (by omega) (by omega) (by omega)]; exact a8 r j r0 r3 j0 j4
  have h22 := u0 2 (by decide) (by decide) (by decide)
  have n1 : sIm υ 1 64 72 66 67 68 69 70 71 := by
    refine ⟨by rw [h22, p2]; exact Or.inr rfl, by rw [h22, p2, q2], fun k a b => ?_, fun _ => ⟨sOK_t h.1 cu, fun i a b => ?_⟩⟩
    · have g := cu.2.2.2.2.2.2.2 (k - 72) 0 (by omega) (by omega) (by decide) (by decide)
      rw [show 72 + (k - 72) = k by omega] at g
      rw [g]
      exact (h.1.1 (k - 72) (by omega) (by omega)).1
    · have g := q4 i a b
      rw [show (80 : Int) * 1 = 80 from rfl, g, jKv_c t0 ⟨a, b⟩, jEq_k h.2.2.1 ⟨a, b⟩, sKv_t cu ⟨a, b⟩]
  have n2 : sIm υ 0 48 56 50 51 52 53 54 55 := sIm_c h.2.2.2.2.1 (fun c hc => u1 c (by omega) (by omega) (by omega) (by omega) (by omega)) (by rw [h22, p3]) (by rw [q3, t0 119 (by decide)]) (fun i a b => by rw [q5 118 _ (by decide) (by omega) (by omega), t0 118 (by decide)])
  refine ⟨p1.trans q1.symm, sOK_c h.1 (fun c hc => u1 c (by omega) (by omega) (by omega) (by omega) (by omega)), pOK_c h.2.1 (u1 3 (by decide) (by decide) (by decide) (by decide) (by decide)) (u1 4 (by decide) (by decide) (by decide) (by decide) (by decide)), jEq_m (fun i a b => ?_), ?_, n2, n1, kBf_c h.2.2.2.2.2.2.1 (by rw [u1 15 (by decide) (by decide) (by decide) (by decide) (by decide)]; exact ⟨rfl, rfl⟩) (u1 21 (by decide) (by decide) (by decide) (by decide) (by decide)) (u1 22 (by decide) (by decide) (by decide) (by decide) (by decide)), ?_, ?_⟩
  · have e1 : jKv υ i = jKv σ i := by
      have pb := jP_b (i := i) ⟨a, b⟩
      unfold jKv
      by_cases c : jPc i = 100
      · rw [c, u2 _ (by omega)]
      · rw [u1 (jPc i) (by omega) (by omega) (by omega) c (by omega)]
    rw [e1, jEq_k h.2.2.1 ⟨a, b⟩]
    exact (sKv_c (fun c hc => u1 c (by omega) (by omega) (by omega) (by omega) (by omega)) ⟨a, b⟩).symm
  · unfold pEq
    rw [u2 18 (by decide), u1 110 (by decide) (by decide) (by decide) (by decide) (by decide), u1 3 (by decide) (by decide) (by decide) (by decide) (by decide), u1 4 (by decide) (by decide) (by decide) (by decide) (by decide)]
    exact h.2.2.2.1
  · unfold kCb
    rw [u1 15 (by decide) (by decide) (by decide) (by decide) (by decide)]
    exact h.2.2.2.2.2.2.2.1
  · unfold jBd
    rw [u1 115 (by decide) (by decide) (by decide) (by decide) (by decide)]
    exact h.2.2.2.2.2.2.2.2
theorem fr_restore_1 {σ τ : zS} {r1 : Int} (h : σ 2 1 = 0 ∨ σ 2 1 = 1) (p : (σ 2 1 = 0 → r1 = -3 ∧ τ = σ) ∧ (σ 2 1 = 1 → r1 = 1 ∧ (∀ k : Int, (k < 32 ∨ 43 < k) → τ k = σ k) ∧ (∀ j : Int, 7 ≤ j → j ≤ 13 → τ 32 j = σ 64 j) ∧ (∀ j : Int, 0 ≤ j → j < 24 → τ 34 j = σ 66 j) ∧ (∀ j : Int, 0 ≤ j → j < 24 → τ 35 j = σ 67 j) ∧ (∀ j : Int, 0 ≤ j → j < 6 → τ 36 j = σ 68 j) ∧ (∀ j : Int, 0 ≤ j → j < 6 → τ 37 j = σ 69 j) ∧ (∀ j : Int, 0 ≤ j → j < 6 → τ 38 j = σ 70 j) ∧ (∀ j : Int, 0 ≤ j → j < 6 → τ 39 j = σ 71 j) ∧ (∀ j : Int, 0 ≤ j → j ≤ 4 → τ 40 j = σ 72 j) ∧ (∀ j : Int, 0 ≤ j → j ≤ 4 → τ 41 j = σ 73 j) ∧ (∀ j : Int, 0 ≤ j → j ≤ 4 → τ 42 j = σ 74 j) ∧ (∀ j : Int, 0 ≤ j → j ≤ 4 → τ 43 j = σ 75 j))) : ∀ c : Int, 100 ≤ c → τ c = σ c := fun c hc => by
  rcases h with h | h
  · rw [(p.1 h).2]
  · exact (p.2 h).2.1 c (by omega)
theorem st_restore_1 {σ τ υ : zS} {r1 r2 : Int} (h : jInv σ) (p : (σ 2 1 = 0 → r1 = -3 ∧ τ = σ) ∧ (σ 2 1 = 1 → r1 = 1 ∧ (∀ k : Int, (k < 32 ∨ 43 < k) → τ k = σ k) ∧ (∀ j : Int, 7 ≤ j → j ≤ 13 → τ 32 j = σ 64 j) ∧ (∀ j : Int, 0 ≤ j → j < 24 → τ 34 j = σ 66 j) ∧ (∀ j : Int, 0 ≤ j → j < 24 → τ 35 j = σ 67 j) ∧ (∀ j : Int, 0 ≤ j → j < 6 → τ 36 j = σ 68 j) ∧ (∀ j : Int, 0 ≤ j → j < 6 → τ 37 j = σ 69 j) ∧ (∀ j : Int, 0 ≤ j → j < 6 → τ 38 j = σ 70 j) ∧ (∀ j : Int, 0 ≤ j → j < 6 → τ 39 j = σ 71 j) ∧ (∀ j : Int, 0 ≤ j → j ≤ 4 → τ 40 j = σ 72 j) ∧ (∀ j : Int, 0 ≤ j → j ≤ 4 → τ 41 j = σ 73 j) ∧ (∀ j : Int, 0 ≤ j → j ≤ 4 → τ 42 j = σ 74 j) ∧ (∀ j : Int, 0 ≤ j → j ≤ 4 → τ 43 j = σ 75 j))) (q : (τ 119 1 = 0 → r2 = -3 ∧ υ = τ) ∧ (τ 119 1 = 1 → r2 = 1 ∧ (∀ i : Int, 0 ≤ i → i < 72 → jKv υ i = τ 118 (80 + i)) ∧ (∀ c j : Int, (c < 100 ∨ 109 < c ∨ (c = 100 ∧ 16 < j ∧ j ≠ 36 ∧ j ≠ 37)) → υ c j = τ c j))) : r1 = r2 ∧ jInv υ := by
  have hI := h.2.2.2.2.2.1
  obtain ⟨i1, i2, i3, i4⟩ := hI
  rcases i1 with z | z
  · obtain ⟨p1, rfl⟩ := p.1 z
    obtain ⟨q1, rfl⟩ := q.1 (by rw [i2]; exact z)
    exact ⟨p1.trans q1.symm, h⟩
  · obtain ⟨p1, p4, p5⟩ := p.2 z
    have t0 : ∀ c : Int, 100 ≤ c → τ c = σ c := fun c hc => p4 c (by omega)
    obtain ⟨q1, q4, q5⟩ := q.2 (by rw [t0 119 (by decide), i2]; exact z)
    obtain ⟨s1, s2⟩ := i4 z
    have u0 : ∀ c : Int, (c < 100 ∨ 109 < c) → υ c = τ c := fun c a => funext fun j => q5 c j (by omega)
    have u1 : ∀ c : Int, (c < 32 ∨ 43 < c) → (c < 100 ∨ 109 < c) → υ c = σ c := fun c a b => by rw [u0 c b, p4 c a]
    have cp : sCp σ τ 32 40 34 35 36 37 38 39 64 72 66 67 68 69 70 71 := by
      refine ⟨p5.1, p5.2.1, p5.2.2.1, p5.2.2.2.1, p5.2.2.2.2.1, p5.2.2.2.2.2.1, p5.2.2.2.2.2.2.1, fun r j r0 r3 j0 j4 => ?_⟩
      have c : r = 0 ∨ r = 1 ∨ r = 2 ∨ r = 3 := by omega
      rcases c with rfl | rfl | rfl | rfl
      · exact p5.2.2.2.2.2.2.2.1 j j0 j4
      · exact p5.2.2.2.2.2.2.2.2.1 j j0 j4
      · exact p5.2.2.2.2.2.2.2.2.2.1 j j0 j4
      · exact p5.2.2.2.2.2.2.2.2.2.2 j j0 j4
    have cu : sCp σ υ 32 40 34 35 36 37 38 39 64 72 66 67 68 69 70 71 := by
      obtain ⟨a1, a2, a3, a4, a5, a6, a7, a8⟩ := cp
      refine ⟨?_, ?_, ?_, ?_, ?_, ?_, ?_, fun r j r0 r3 j0 j4 => ?_⟩
      · rw [u0 32 (by decide)]; exact a1
      · rw [u0 34 (by decide)]; exact a2
      · rw [u0 35 (by decide)]; exact a3
      · rw [u0 36 (by decide)]; exact a4
      · rw [u0 37 (by decide)]; exact a5
      · rw [u0 38 (by decide)]; exact a6
      · rw [u0 39 (by decide)]; exact a7
      · rw [u0 (40 + r) (by omega)]; exact a8 r j r0 r3 j0 j4
    have im : ∀ (n b p s g t1 t2 t3 t4 : Int), (44 ≤ b ∧ b < 100) → (44 ≤ p ∧ p < 90) → (44 ≤ s ∧ s < 100) → (44 ≤ g ∧ g < 100) → (44 ≤ t1 ∧ t1 < 100) → (44 ≤ t2 ∧ t2 < 100) → (44 ≤ t3 ∧ t3 < 100) → (44 ≤ t4 ∧ t4 < 100) → sIm σ n b p s g t1 t2 t3 t4 → sIm υ n b p s g t1 t2 t3 t4 := fun n b p s g t1 t2 t3 t4 k1 k2 k3 k4 k5 k6 k7 k8 k => sIm_c k (fun c hc => u1 c (by omega) (by omega)) (by rw [u1 2 (by decide) (by decide)]) (by rw [u1 119 (by decide) (by decide)]) (fun i _ _ => by rw [u1 118 (by decide) (by decide)])
    refine ⟨p1.trans q1.symm, sOK_t s1 cu, pOK_c h.2.1 (u1 3 (by decide) (by decide)) (u1 4 (by decide) (by decide)), jEq_m (fun i a b => ?_), ?_, im _ _ _ _ _ _ _ _ _ (by decide) (by decide) (by decide) (by decide) (by decide) (by decide) (by decide) (by decide) h.2.2.2.2.1, im _ _ _ _ _ _ _ _ _ (by decide) (by decide) (by decide) (by decide) (by decide) (by decide) (by decide) (by decide) h.2.2.2.2.2.1, kBf_c h.2.2.2.2.2.2.1 (by rw [u1 15 (by decide) (by decide)]; exact ⟨rfl, rfl⟩) (u1 21 (by decide) (by decide)) (u1 22 (by decide) (by decide)), ?_, ?_⟩
    · have g := s2 i a b
      rw [show (80 : Int) * 1 = 80 from rfl] at g
      rw [q4 i a b, t0 118 (by decide), g, sKv_t cu ⟨a, b⟩]
    · unfold pEq
      rw [q5 100 18 (by decide), t0 100 (by decide), u1 110 (by decide) (by decide), u1 3 (by decide) (by decide), u1 4 (by decide) (by decide)]
      exact h.2.2.2.1
    · unfold kCb
      rw [u1 15 (by decide) (by decide)]
      exact h.2.2.2.2.2.2.2.1
    · unfold jBd
      rw [u1 115 (by decide) (by decide)]
      exact h.2.2.2.2.2.2.2.2