theorem jInv_sc {σ υ : zS} (h : jInv σ) (f : ∀ c : Int, c ≠ 32 → c ≠ 100 → υ c = σ c) (g : ((0 ≤ υ 32 7 ∧ υ 32 7 ≤ 3) ∧ (0 ≤ υ 32 8 ∧ υ 32 8 ≤ 3) ∧ υ 32 7 ≠ υ 32 8 ∧ (5 ≤ υ 32 9 ∧ υ 32 9 ≤ 20) ∧ (0 ≤ υ 32 10 ∧ υ 32 10 ≤ 99) ∧ (0 ≤ υ 32 11 ∧ υ 32 11 ≤ 50) ∧ (1 ≤ υ 32 12 ∧ υ 32 12 ≤ 24) ∧ (0 ≤ υ 32 13 ∧ υ 32 13 ≤ 6))) (n : υ 32 12 = σ 32 12) (e : υ 100 0 = σ 100 0 ∧ υ 100 18 = σ 100 18) (es : υ 100 5 = υ 32 7 ∧ υ 100 6 = υ 32 8 ∧ υ 100 7 = υ 32 9 ∧ υ 100 8 = υ 32 10 ∧ υ 100 9 = υ 32 11 ∧ υ 100 11 = υ 32 12 ∧ υ 100 16 = υ 32 13) : jInv υ := by
  refine jInv_m h (fun c hc => f c (by omega) (by omega)) ?_ (pOK_c h.2.1 (f 3 (by decide) (by decide)) (f 4 (by decide) (by decide))) ?_ ?_
  · obtain ⟨o1, o2, o3, o4, o5⟩ := h.1
    refine ⟨fun r a b => by rw [f (40 + r) (by omega) (by omega)]; exact o1 r a b, g, ?_, ?_, ?_⟩
    · rw [f 34 (by decide) (by decide), f 35 (by decide) (by decide)]; exact o3
    · rw [f 34 (by decide) (by decide), f 35 (by decide) (by decide), n]; exact o4
    · rw [f 36 (by decide) (by decide), f 37 (by decide) (by decide), f 38 (by decide) (by decide), f 39 (by decide) (by decide)]; exact o5
  · obtain ⟨g1, g2, g3, g4⟩ := h.2.2.1
    refine ⟨fun r a b => by rw [f (40 + r) (by omega) (by omega), f 101 (by decide) (by decide), f 102 (by decide) (by decide), f 103 (by decide) (by decide), f 104 (by decide) (by decide)]; exact g1 r a b, ⟨?_, es⟩, ?_, ?_⟩
    · unfold mBits
      rw [e.1, f 40 (by decide) (by decide), f 41 (by decide) (by decide), f 42 (by decide) (by decide), f 43 (by decide) (by decide)]
      exact g2.1
    · rw [f 105 (by decide) (by decide), f 34 (by decide) (by decide)]; exact g3
    · rw [f 106 (by decide) (by decide), f 107 (by decide) (by decide), f 108 (by decide) (by decide), f 109 (by decide) (by decide), f 36 (by decide) (by decide), f 37 (by decide) (by decide), f 38 (by decide) (by decide), f 39 (by decide) (by decide)]; exact g4
  · unfold pEq
    rw [e.2, f 110 (by decide) (by decide), f 3 (by decide) (by decide), f 4 (by decide) (by decide)]
    exact h.2.2.2.1
theorem jInv_pd {σ υ : zS} (h : jInv σ) (f : ∀ c : Int, c ≠ 3 → c ≠ 4 → c ≠ 100 → c ≠ 110 → υ c = σ c) (e : ∀ j : Int, j ≠ 18 → υ 100 j = σ 100 j) (b : pOK υ) (d : pEq υ) : jInv υ := by
  refine jInv_m h (fun c hc => f c (by omega) (by omega) (by omega) (by omega)) (sOK_c h.1 (fun c hc => f c (by omega) (by omega) (by omega) (by omega))) b ?_ d
  obtain ⟨g1, g2, g3, g4⟩ := h.2.2.1
  have z : ∀ c : Int, (c = 32 ∨ (34 ≤ c ∧ c ≤ 43) ∨ (101 ≤ c ∧ c ≤ 109)) → υ c = σ c := fun c hc => f c (by omega) (by omega) (by omega) (by omega)
  refine ⟨fun r a b => by rw [z (40 + r) (by omega), z 101 (by decide), z 102 (by decide), z 103 (by decide), z 104 (by decide)]; exact g1 r a b, ?_, ?_, ?_⟩
  · unfold mBits
    rw [e 0 (by decide), e 5 (by decide), e 6 (by decide), e 7 (by decide), e 8 (by decide), e 9 (by decide), e 11 (by decide), e 16 (by decide), z 32 (by decide), z 40 (by decide), z 41 (by decide), z 42 (by decide), z 43 (by decide)]
    exact g2
  · rw [z 105 (by decide), z 34 (by decide)]; exact g3
  · rw [z 106 (by decide), z 107 (by decide), z 108 (by decide), z 109 (by decide), z 36 (by decide), z 37 (by decide), z 38 (by decide), z 39 (by decide)]; exact g4
theorem st_leave {σ τ υ : zS} {r1 r2 : Int} (h : jInv σ) (rr : Int) (p : if ¬ (0 ≤ rr ∧ rr ≤ 3 ∧ σ (40 + rr) 0 = 1) then r1 = -1 ∧ τ = σ else τ = zU σ (40 + rr) 0 0 ∧ r1 = mPop (mBits τ)) (q : if ¬ (0 ≤ rr ∧ rr ≤ 3 ∧ mBit (τ 100 0) rr = 1) then r2 = -1 ∧ υ = τ else υ = zU τ 100 0 (mClrB (τ 100 0) rr) ∧ r2 = mPop (mClrB (τ 100 0) rr)) : r1 = r2 ∧ jInv υ := by
  by_cases c1 : 0 ≤ rr ∧ rr ≤ 3 ∧ σ (40 + rr) 0 = 1
  · rw [if_neg (by omega)] at p
    obtain ⟨p1, p2⟩ := p
    have e100 : τ 100 = σ 100 := by rw [p1, zU_cell (by omega)]
    have c2 := (iv_th h rr).1 c1
    rw [e100, if_neg (fun z => z c2)] at q
    obtain ⟨q1, q2⟩ := q
    have e0 : σ 100 0 = mBits σ := h.2.2.1.2.1.1
    have u0 : ∀ c : Int, c ≠ 100 → υ c = τ c := fun c hc => by rw [q1, zU_cell hc]
    have u1 : ∀ c : Int, c ≠ 100 → (c < 40 ∨ 43 < c) → υ c = σ c := fun c hc hd => by rw [u0 c hc, p1, zU_cell (by omega)]
    have u2 : ∀ r j : Int, 0 ≤ r → r ≤ 3 → υ (40 + r) j = if r = rr ∧ j = 0 then 0 else σ (40 + r) j := fun r j a b => by
      rw [u0 (40 + r) (by omega), p1]
      unfold zU
      by_cases hq : r = rr ∧ j = 0
      · rw [if_pos hq, if_pos (by omega)]
      · rw [if_neg hq, if_neg (by omega)]
    have u3 : ∀ j : Int, j ≠ 0 → υ 100 j = σ 100 j := fun j a => by rw [q1, zU_place a, e100]
    have eb : mBits υ = mClrB (mBits σ) rr := iv_clr h c1.1 c1.2.1 (fun r a b => by rw [u2 r 0 a b]; simp)
    have et : mBits υ = mBits τ := by unfold mBits; rw [u0 40 (by decide), u0 41 (by decide), u0 42 (by decide), u0 43 (by decide)]
    refine ⟨by rw [p2, q2, ← et, eb, e0], jInv_m h (fun c hc => u1 c (by omega) (by omega)) ?_ (pOK_c h.2.1 (u1 3 (by decide) (by decide)) (u1 4 (by decide) (by decide))) ?_ ?_⟩
    · obtain ⟨o1, o2⟩ := h.1
      refine ⟨fun r a b => ?_, ?_⟩
      · have o := o1 r a b
        rw [u2 r 0 a b, u2 r 1 a b, u2 r 2 a b, u2 r 3 a b, u2 r 4 a b]
        by_cases hr : r = rr
        · simp [hr] at o ⊢
          omega
        · simp [hr] at o ⊢
          omega
      · rw [u1 32 (by decide) (by decide), u1 34 (by decide) (by decide), u1 35 (by decide) (by decide), u1 36 (by decide) (by decide), u1 37 (by decide) (by decide), u1 38 (by decide) (by decide), u1 39 (by decide) (by decide)]
        exact o2
    · obtain ⟨g1, g2, g3, g4⟩ := h.2.2.1
      refine ⟨fun r a b => ?_, ⟨?_, ?_⟩, ?_, ?_⟩
      · rw [u2 r 1 a b, u2 r 2 a b, u2 r 3 a b, u2 r 4 a b, u1 101 (by decide) (by decide), u1 102 (by decide) (by decide), u1 103 (by decide) (by decide), u1 104 (by decide) (by decide)]
        simp
        exact g1 r a b
      · rw [eb, q1, zU_same, e0]
      · rw [u3 5 (by decide), u3 6 (by decide), u3 7 (by decide), u3 8 (by decide), u3 9 (by decide), u3 11 (by decide), u3 16 (by decide), u1 32 (by decide) (by decide)]
        exact g2.2
      · rw [u1 105 (by decide) (by decide), u1 34 (by decide) (by decide)]; exact g3
      · rw [u1 106 (by decide) (by decide), u1 107 (by decide) (by decide), u1 108 (by decide) (by decide), u1 109 (by decide) (by decide), u1 36 (by decide) (by decide), u1 37 (by decide) (by decide), u1 38 (by decide) (by decide), u1 39 (by decide) (by decide)]; exact g4
    · unfold pEq
      rw [u3 18 (by decide), u1 110 (by decide) (by decide), u1 3 (by decide) (by decide), u1 4 (by decide) (by decide)]
      exact h.2.2.2.1
  · rw [if_pos c1] at p
    obtain ⟨p1, rfl⟩ := p
    rw [if_pos (fun z => c1 ((iv_th h rr).2 z))] at q
    obtain ⟨q1, rfl⟩ := q
    exact ⟨p1.trans q1.symm, h⟩
theorem st_seat {σ τ υ : zS} {r1 r2 : Int} (h : jInv σ) (f b : Int) (p : if ¬ ((0 ≤ f ∧ f ≤ 3 ∧ σ (40 + f) 0 = 1) ∧ (0 ≤ b ∧ b ≤ 3 ∧ σ (40 + b) 0 = 1) ∧ f ≠ b) then r1 = -1 ∧ τ = σ else τ = zU (zU σ 32 7 f) 32 8 b ∧ r1 = 1) (q : if ¬ ((0 ≤ f ∧ f ≤ 3 ∧ mBit (τ 100 0) f = 1) ∧ (0 ≤ b ∧ b ≤ 3 ∧ mBit (τ 100 0) b = 1) ∧ f ≠ b) then r2 = -1 ∧ υ = τ else υ = zU (zU τ 100 5 f) 100 6 b ∧ r2 = 1) : r1 = r2 ∧ jInv υ := by
  by_cases c1 : (0 ≤ f ∧ f ≤ 3 ∧ σ (40 + f) 0 = 1) ∧ (0 ≤ b ∧ b ≤ 3 ∧ σ (40 + b) 0 = 1) ∧ f ≠ b
  · rw [if_neg (fun z => z c1)] at p
    obtain ⟨p1, p2⟩ := p
    have e100 : τ 100 = σ 100 := by rw [p1, zU_cell (by omega), zU_cell (by omega)]
    have c2 : (0 ≤ f ∧ f ≤ 3 ∧ mBit (σ 100 0) f = 1) ∧ (0 ≤ b ∧ b ≤ 3 ∧ mBit (σ 100 0) b = 1) ∧ f ≠ b := ⟨(iv_th h f).1 c1.1, (iv_th h b).1 c1.2.1, c1.2.2⟩
    rw [e100, if_neg (fun z => z c2)] at q
    obtain ⟨q1, q2⟩ := q
    have o := h.1.2.1
    have e := iv_sc h
    have v7 : υ 32 7 = f := by rw [q1, p1]; simp [zU]
    have v8 : υ 32 8 = b := by rw [q1, p1]; simp [zU]
    have w5 : υ 100 5 = f := by rw [q1]; simp [zU]
    have w6 : υ 100 6 = b := by rw [q1]; simp [zU]
    have vo : ∀ j : Int, j ≠ 7 → j ≠ 8 → υ 32 j = σ 32 j := fun j a b => by rw [q1, p1]; simp [zU, a, b]
    have wo : ∀ j : Int, j ≠ 5 → j ≠ 6 → υ 100 j = σ 100 j := fun j a b => by rw [q1, zU_place b, zU_place a, e100]
    refine ⟨p2.trans q2.symm, jInv_sc h (fun c a d => by rw [q1, zU_cell d, zU_cell d, p1, zU_cell a, zU_cell a]) ?_ (vo 12 (by decide) (by decide)) ⟨wo 0 (by decide) (by decide), wo 18 (by decide) (by decide)⟩ ?_⟩
    · rw [v7, v8, vo 9 (by decide) (by decide), vo 10 (by decide) (by decide), vo 11 (by decide) (by decide), vo 12 (by decide) (by decide), vo 13 (by decide) (by decide)]
      exact ⟨⟨c1.1.1, c1.1.2.1⟩, ⟨c1.2.1.1, c1.2.1.2.1⟩, c1.2.2, o.2.2.2⟩
    · rw [v7, v8, w5, w6, vo 9 (by decide) (by decide), vo 10 (by decide) (by decide), vo 11 (by decide) (by decide), vo 12 (by decide) (by decide), vo 13 (by decide) (by decide), wo 7 (by decide) (by decide), wo 8 (by decide) (by decide), wo 9 (by decide) (by decide), wo 11 (by decide) (by decide), wo 16 (by decide) (by decide)]
      exact ⟨rfl, rfl, e.2.2⟩
  · rw [if_pos c1] at p
    obtain ⟨p1, rfl⟩ := p
    rw [if_pos (fun z => c1 ⟨(iv_th h f).2 z.1, (iv_th h b).2 z.2.1, z.2.2⟩)] at q
    obtain ⟨q1, rfl⟩ := q
    exact ⟨p1.trans q1.symm, h⟩
theorem st_set_0 {σ τ υ : zS} {r1 r2 : Int} (h : jInv σ) (v : Int) (p : if ¬ ((0 = 0 ∧ 5 ≤ v ∧ v ≤ 20) ∨ (0 = 1 ∧ 0 ≤ v ∧ v ≤ 99) ∨ (0 = 2 ∧ 0 ≤ v ∧ v ≤ 50)) then r1 = -2 ∧ τ = σ else τ = zU σ 32 (9 + 0) v ∧ r1 = σ 32 (9 + 0)) (q : (¬ (5 ≤ v ∧ v ≤ 20) → r2 = -2 ∧ υ = τ) ∧ (5 ≤ v ∧ v ≤ 20 → (∀ k j : Int, ¬ (k = 100 ∧ j = 7) → υ k j = τ k j) ∧ υ 100 7 = v ∧ r2 = τ 100 7)) : r1 = r2 ∧ jInv υ := by
  have o := h.1.2.1
  have e := iv_sc h
  by_cases c1 : 5 ≤ v ∧ v ≤ 20
  · rw [if_neg (by omega)] at p
    obtain ⟨p1, p2⟩ := p
    obtain ⟨q1, q2, q3⟩ := q.2 c1
    have e100 : τ 100 = σ 100 := by rw [p1, zU_cell (by omega)]
    have v1 : υ 32 9 = v := by rw [q1 32 9 (by omega), p1]; simp [zU]
    have vo : ∀ j : Int, j ≠ 9 → υ 32 j = σ 32 j := fun j a => by rw [q1 32 j (by omega), p1]; simp [zU]; omega
    have wo : ∀ j : Int, j ≠ 7 → υ 100 j = σ 100 j := fun j a => by rw [q1 100 j (by omega), e100]
    refine ⟨?_, jInv_sc h (fun c a d => by funext j; rw [q1 c j (by omega), p1, zU_cell a]) ?_ (vo 12 (by decide)) ⟨wo 0 (by decide), wo 18 (by decide)⟩ ?_⟩
    · rw [p2, q3, e100, e.2.2.1]; rfl
    · rw [vo 7 (by decide), vo 8 (by decide), vo 10 (by decide), vo 11 (by decide), vo 12 (by decide), vo 13 (by decide), v1]
      omega
    · rw [vo 7 (by decide), vo 8 (by decide), vo 10 (by decide), vo 11 (by decide), vo 12 (by decide), vo 13 (by decide), v1, wo 5 (by decide), wo 6 (by decide), wo 8 (by decide), wo 9 (by decide), wo 11 (by decide), wo 16 (by decide), q2]
      simp [e.1, e.2.1, e.2.2.1, e.2.2.2.1, e.2.2.2.2.1, e.2.2.2.2.2.1, e.2.2.2.2.2.2]
  · rw [if_pos (by omega)] at p
    obtain ⟨p1, rfl⟩ := p
    obtain ⟨q1, rfl⟩ := q.1 c1
    exact ⟨p1.trans q1.symm, h⟩
theorem st_set_1 {σ τ υ : zS} {r1 r2 : Int} (h : jInv σ) (v : Int) (p : if ¬ ((1 = 0 ∧ 5 ≤ v ∧ v ≤ 20) ∨ (1 = 1 ∧ 0 ≤ v ∧ v ≤ 99) ∨ (1 = 2 ∧ 0 ≤ v ∧ v ≤ 50)) then r1 = -2 ∧ τ = σ else τ = zU σ 32 (9 + 1) v ∧ r1 = σ 32 (9 + 1)) (q : (¬ (0 ≤ v ∧ v ≤ 99) → r2 = -2 ∧ υ = τ) ∧ (0 ≤ v ∧ v ≤ 99 → (∀ k j : Int, ¬ (k = 100 ∧ j = 8) → υ k j = τ k j) ∧ υ 100 8 = v ∧ r2 = τ 100 8)) : r1 = r2 ∧ jInv υ := by
  have o := h.1.2.1
  have e := iv_sc h
  by_cases c1 : 0 ≤ v ∧ v ≤ 99
  · rw [if_neg (by omega)] at p
    obtain ⟨p1, p2⟩ := p
    obtain ⟨q1, q2, q3⟩ := q.2 c1
    have e100 : τ 100 = σ 100 := by rw [p1, zU_cell (by omega)]
    have v1 : υ 32 10 = v := by rw [q1 32 10 (by omega), p1]; simp [zU]
    have vo : ∀ j : Int, j ≠ 10 → υ 32 j = σ 32 j := fun j a => by rw [q1 32 j (by omega), p1]; simp [zU]; omega
    have wo : ∀ j : Int, j ≠ 8 → υ 100 j = σ 100 j := fun j a => by rw [q1 100 j (by omega), e100]
    refine ⟨?_, jInv_sc h (fun c a d => by funext j; rw [q1 c j (by omega), p1, zU_cell a]) ?_ (vo 12 (by decide)) ⟨wo 0 (by decide), wo 18 (by decide)⟩ ?_⟩
    · rw [p2, q3, e100, e.2.2.2.1]; rfl
    · rw [vo 7 (by decide), vo 8 (by decide), vo 9 (by decide), vo 11 (by decide), vo 12 (by decide), vo 13 (by decide), v1]
      omega
    · rw [vo 7 (by decide), vo 8 (by decide), vo 9 (by decide), vo 11 (by decide), vo 12 (by decide), vo 13 (by decide), v1, wo 5 (by decide), wo 6 (by decide), wo 7 (by decide), wo 9 (by decide), wo 11 (by decide), wo 16 (by decide), q2]
      simp [e.1, e.2.1, e.2.2.1, e.2.2.2.1, e.2.2.2.2.1, e.2.2.2.2.2.1, e.2.2.2.2.2.2]
  · rw [if_pos (by omega)] at p
    obtain ⟨p1, rfl⟩ := p
    obtain ⟨q1, rfl⟩ := q.1 c1
    exact ⟨p1.trans q1.symm, h⟩
theorem st_set_2 {σ τ υ : zS} {r1 r2 : Int} (h : jInv σ) (v : Int) (p : if ¬ ((2 = 0 ∧ 5 ≤ v ∧ v ≤ 20) ∨ (2 = 1 ∧ 0 ≤ v ∧ v ≤ 99) ∨ (2 = 2 ∧ 0 ≤ v ∧ v ≤ 50)) then r1 = -2 ∧ τ = σ else τ = zU σ 32 (9 + 2) v ∧ r1 = σ 32 (9 + 2)) (q : (¬ (0 ≤ v ∧ v ≤ 50) → r2 = -2 ∧ υ = τ) ∧ (0 ≤ v ∧ v ≤ 50 → (∀ k j : Int, ¬ (k = 100 ∧ j = 9) → υ k j = τ k j) ∧ υ 100 9 = v ∧ r2 = τ 100 9)) : r1 = r2 ∧ jInv υ := by
  have o := h.1.2.1
  have e := iv_sc h
  by_cases c1 : 0 ≤ v ∧ v ≤ 50
  · rw [if_neg (by omega)] at p
    obtain ⟨p1, p2⟩ := p
    obtain ⟨q1, q2, q3⟩ := q.2 c1
    have e100 : τ 100 = σ 100 := by rw [p1, zU_cell (by omega)]
    have v1 : υ 32 11 = v := by rw [q1 32 11 (by omega), p1]; simp [zU]
    have vo : ∀ j : Int, j ≠ 11 → υ 32 j = σ 32 j := fun j a => by rw [q1 32 j (by omega), p1]; simp [zU]; omega
    have wo : ∀ j : Int, j ≠ 9 → υ 100 j = σ 100 j := fun j a => by rw [q1 100 j (by omega), e100]
    refine ⟨?_, jInv_sc h (fun c a d => by funext j; rw [q1 c j (by omega), p1, zU_cell a]) ?_ (vo 12 (by decide)) ⟨wo 0 (by decide), wo 18 (by decide)⟩ ?_⟩
    · rw [p2, q3, e100, e.2.2.2.2.1]; rfl
    · rw [vo 7 (by decide), vo 8 (by decide), vo 9 (by decide), vo 10 (by decide), vo 12 (by decide), vo 13 (by decide), v1]
      omega
    · rw [vo 7 (by decide), vo 8 (by decide), vo 9 (by decide), vo 10 (by decide), vo 12 (by decide), vo 13 (by decide), v1, wo 5 (by decide), wo 6 (by decide), wo 7 (by decide), wo 8 (by decide), wo 11 (by decide), wo 16 (by decide), q2]
      simp [e.1, e.2.1, e.2.2.1, e.2.2.2.1, e.2.2.2.2.1, e.2.2.2.2.2.1, e.2.2.2.2.2.2]
  · rw [if_pos (by omega)] at p
    obtain ⟨p1, rfl⟩ := p
    obtain ⟨q1, rfl⟩ := q.1 c1
    exact ⟨p1.trans q1.symm, h⟩
theorem st_set_o {σ τ υ : zS} {r1 r2 : Int} (h : jInv σ) (w0 v : Int) (n0 : ¬ w0 = 0) (n1 : ¬ w0 = 1) (n2 : ¬ w0 = 2) (p : if ¬ ((w0 = 0 ∧ 5 ≤ v ∧ v ≤ 20) ∨ (w0 = 1 ∧ 0 ≤ v ∧ v ≤ 99) ∨ (w0 = 2 ∧ 0 ≤ v ∧ v ≤ 50)) then r1 = -2 ∧ τ = σ else τ = zU σ 32 (9 + w0) v ∧ r1 = σ 32 (9 + w0)) (q : r2 = -2 ∧ υ = τ) : r1 = r2 ∧ jInv υ := by
  rw [if_pos (by omega)] at p
  obtain ⟨p1, rfl⟩ := p
  obtain ⟨q1, rfl⟩ := q
  exact ⟨p1.trans q1.symm, h⟩
theorem st_say {σ τ υ : zS} {r1 r2 : Int} (h : jInv σ) (sg : Int) (p : if ¬ (33 ≤ sg ∧ sg ≤ 126) then r1 = -2 ∧ τ = σ else if 110 ≤ σ 3 1 then r1 = -4 ∧ τ = σ else τ = zU (zU σ 4 (σ 3 1) sg) 3 1 (σ 3 1 + 1) ∧ r1 = σ 3 1 + 1) (q : if ¬ (33 ≤ sg ∧ sg ≤ 126) then r2 = -2 ∧ υ = τ else if 110 ≤ τ 100 18 then r2 = -4 ∧ υ = τ else υ = zU (zU τ 110 (τ 100 18) sg) 100 18 (τ 100 18 + 1) ∧ r2 = τ 100 18 + 1) : r1 = r2 ∧ jInv υ := by
  have ep := h.2.2.2.1
  have ep1 : σ 100 18 = σ 3 1 := ep.1
  have o := h.2.1
  by_cases c1 : 33 ≤ sg ∧ sg ≤ 126
  · rw [if_neg (by omega)] at p q
    by_cases c2 : 110 ≤ σ 3 1
    · rw [if_pos c2] at p
      obtain ⟨p1, rfl⟩ := p
      rw [if_pos (by omega)] at q
      obtain ⟨q1, rfl⟩ := q
      exact ⟨p1.trans q1.symm, h⟩
    · rw [if_neg c2] at p
      obtain ⟨p1, p2⟩ := p
      have e100 : τ 100 = σ 100 := by rw [p1, zU_cell (by decide), zU_cell (by decide)]
      have e110 : τ 110 = σ 110 := by rw [p1, zU_cell (by decide), zU_cell (by decide)]
      rw [e100, if_neg (by omega)] at q
      obtain ⟨q1, q2⟩ := q
      have v3 : υ 3 1 = σ 3 1 + 1 := by rw [q1, zU_cell (by decide), zU_cell (by decide), p1, zU_same]
      have v4 : ∀ i : Int, υ 4 i = if i = σ 3 1 then sg else σ 4 i := fun i => by rw [q1, zU_cell (by decide), zU_cell (by decide), p1, zU_cell (by decide)]; unfold zU; simp
      have w18 : υ 100 18 = σ 100 18 + 1 := by rw [q1, zU_same]
      have w110 : ∀ i : Int, υ 110 i = if i = σ 100 18 then sg else σ 110 i := fun i => by rw [q1, zU_cell (by decide), ← e110]; unfold zU; simp
      refine ⟨by rw [p2, q2, ep.1], jInv_pd h (fun c a b d e => by rw [q1, zU_cell d, zU_cell e, p1, zU_cell a, zU_cell b]) (fun j a => by rw [q1, zU_place a, zU_cell (by decide), e100]) ⟨?_, fun i a b => ?_⟩ ⟨?_, fun i a b => ?_⟩⟩
      · rw [v3]; have := o.1; omega
      · rw [v4]
        split
        · omega
        · exact o.2 i a b
      · rw [w18, v3, ep.1]
      · rw [w110, v4, ep.1, ep.2 i a b]
  · rw [if_pos c1] at p q
    obtain ⟨p1, rfl⟩ := p
    obtain ⟨q1, rfl⟩ := q
    exact ⟨p1.trans q1.symm, h⟩
theorem st_wipe {σ τ υ : zS} {r1 r2 : Int} (h : jInv σ)  (p : τ = zU σ 3 1 0 ∧ r1 = σ 3 1) (q : υ = zU τ 100 18 0 ∧ r2 = τ 100 18) : r1 = r2 ∧ jInv υ := by
  obtain ⟨p1, p2⟩ := p
  obtain ⟨q1, q2⟩ := q
  have ep := h.2.2.2.1
  have e100 : τ 100 = σ 100 := by rw [p1, zU_cell (by decide)]
  refine ⟨by rw [p2, q2, e100, ep.1], jInv_pd h (fun c a b d e => by rw [q1, zU_cell d, p1, zU_cell a]) (fun j a => by rw [q1, zU_place a, e100]) ⟨?_, fun i a b => ?_⟩ ⟨?_, fun i a b => ?_⟩⟩
  · rw [q1, zU_cell (by decide), p1, zU_same]; decide
  · rw [q1, zU_cell (by decide), p1, zU_cell (by decide)]; exact h.2.1.2 i a b
  · rw [q1, zU_same, zU_cell (by decide), p1, zU_same]
  · rw [q1, zU_cell (by decide), zU_cell (by decide), p1, zU_cell (by decide), zU_cell (by decide)]; exact ep.2 i a b
theorem st_forget {σ τ υ : zS} {r1 r2 : Int} (h : jInv σ)  (p : τ = zU σ 32 13 0 ∧ r1 = σ 32 13) (q : υ = zU τ 100 16 0 ∧ r2 = τ 100 16) : r1 = r2 ∧ jInv υ := by
  obtain ⟨p1, p2⟩ := p
  obtain ⟨q1, q2⟩ := q
  have e := iv_sc h
  have o := h.1.2.1
  have e100 : τ 100 = σ 100 := by rw [p1, zU_cell (by decide)]
  have vo : ∀ j : Int, j ≠ 13 → υ 32 j = σ 32 j := fun j a => by rw [q1, zU_cell (by decide), p1, zU_place a]
  have v1 : υ 32 13 = 0 := by rw [q1, zU_cell (by decide), p1, zU_same]
  have wo : ∀ j : Int, j ≠ 16 → υ 100 j = σ 100 j := fun j a => by rw [q1, zU_place a, e100]
  have w1 : υ 100 16 = 0 := by rw [q1, zU_same]
  refine ⟨by rw [p2, q2, e100, e.2.2.2.2.2.2], jInv_sc h (fun c a d => by rw [q1, zU_cell d, p1, zU_cell a]) ?_ (vo 12 (by decide)) ⟨wo 0 (by decide), wo 18 (by decide)⟩ ?_⟩
  · rw [vo 7 (by decide), vo 8 (by decide), vo 9 (by decide), vo 10 (by decide), vo 11 (by decide), vo 12 (by decide), v1]
    omega
  · rw [vo 7 (by decide), vo 8 (by decide), vo 9 (by decide), vo 10 (by decide), vo 11 (by decide), vo 12 (by decide), v1, wo 5 (by decide), wo 6 (by decide), wo 7 (by decide), wo 8 (by decide), wo 9 (by decide), wo 11 (by decide), w1]
    omega
theorem st_fault {σ τ υ : zS} {r1 r2 : Int} (h : jInv σ) (hw : Int) (p : (hw = 0 → r1 = mFWg (σ 4) (σ 3 1) 110 0) ∧ (hw = 1 → r1 = mRd (mSg σ) (σ 32 12) (σ 3 1) (σ 32 12).toNat 0) ∧ (hw ≠ 0 → hw ≠ 1 → r1 = -2) ∧ (∀ k : Int, k < 6 ∨ 14 < k → τ k = σ k)) (q : (hw = 0 → r2 = mFWg (τ 110) (τ 100 18) 110 0) ∧ (hw = 1 → r2 = mRd (mSgM τ) (τ 100 11) (τ 100 18) (τ 100 11).toNat 0) ∧ (hw ≠ 0 → hw ≠ 1 → r2 = -2) ∧ (∀ k : Int, k < 111 ∨ 114 < k → υ k = τ k)) : r1 = r2 ∧ jInv υ := by
  have f7 := p.2.2.2
  have f8 := q.2.2.2
  have fr : ∀ c : Int, 100 ≤ c → τ c = σ c := fun c hc => f7 c (by omega)
  refine ⟨?_, jInv_f h (fun c hc => by rw [f8 c (by omega), f7 c (by omega)]) (fun j _ _ => by rw [f8 100 (by decide), f7 100 (by decide)]) (kBf_c h.2.2.2.2.2.2.1 (by rw [f8 15 (by decide), f7 15 (by decide)]; exact ⟨rfl, rfl⟩) (by rw [f8 21 (by decide), f7 21 (by decide)]) (by rw [f8 22 (by decide), f7 22 (by decide)])) (by unfold kCb; rw [f8 15 (by decide), f7 15 (by decide)]; exact h.2.2.2.2.2.2.2.1) (by unfold jBd; rw [f8 115 (by decide), f7 115 (by decide)]; exact h.2.2.2.2.2.2.2.2)⟩
  by_cases c0 : hw = 0
  · rw [p.1 c0, q.1 c0, fr 110 (by decide), fr 100 (by decide), iv_FW h]
  · by_cases c1 : hw = 1
    · rw [p.2.1 c1, q.2.1 c1, cs_FW fr, iv_Sg h, fr 100 (by decide), (iv_sc h).2.2.2.2.2.1, h.2.2.2.1.1]
    · rw [p.2.2.1 c0 c1, q.2.2.1 c0 c1]
theorem st_way {σ τ υ : zS} {r1 r2 : Int} (h : jInv σ)  (p : if mFWg (σ 4) (σ 3 1) 110 0 ≠ -6 then r1 = -5 ∧ τ = σ else τ = zU (mTake σ (σ 3 1) (σ 3 1)) 3 1 0 ∧ r1 = σ 3 1) (q : if mFWg (τ 110) (τ 100 18) 110 0 ≠ -6 then r2 = -5 ∧ υ = τ else υ = zU (zU (mTakeM τ (τ 100 18)) 100 11 (τ 100 18)) 100 18 0 ∧ r2 = τ 100 18) : r1 = r2 ∧ jInv υ := by
  have ef : ∀ c : Int, 100 ≤ c → τ c = σ c := fr_way p
  have eF := iv_FW h
  have ep := h.2.2.2.1
  rw [ef 110 (by decide), ef 100 (by decide), eF] at q
  by_cases c1 : mFWg (σ 4) (σ 3 1) 110 0 = -6
  · rw [if_neg (fun z => z c1)] at p q
    obtain ⟨p1, p2⟩ := p
    obtain ⟨q1, q2⟩ := q
    have hn := mFWg_ok h.2.1.1 c1
    have o := h.1.2.1
    have e := iv_sc h
    have u0 : ∀ c : Int, c < 100 → υ c = τ c := fun c hc => by rw [q1, zU_cell (by omega), zU_cell (by omega)]; funext j; unfold mTakeM; rw [if_neg (by omega)]
    have t0 : ∀ c : Int, c ≠ 3 → c ≠ 32 → c ≠ 34 → c ≠ 35 → τ c = σ c := fun c a b d e => by rw [p1, zU_cell a]; funext j; unfold mTake; rw [if_neg (by omega), if_neg (by omega), if_neg (by omega)]
    have w0 : ∀ c : Int, 100 < c → c ≠ 105 → υ c = σ c := fun c a b => by rw [q1, zU_cell (by omega), zU_cell (by omega)]; funext j; unfold mTakeM; rw [if_neg (by omega), ef c (by omega)]
    have v32 : ∀ j : Int, υ 32 j = if j = 12 then σ 3 1 else σ 32 j := fun j => by
      rw [u0 32 (by decide), p1, zU_cell (by decide)]
      unfold mTake
      rw [if_neg (by omega), if_neg (by omega)]
      by_cases hj : j = 12
      · rw [if_pos ⟨rfl, hj⟩, if_pos hj]
      · rw [if_neg (by omega), if_neg hj]
    have v34 : ∀ i : Int, 0 ≤ i → υ 34 i = if i < σ 3 1 then σ 4 i else σ 34 i := fun i a => by
      rw [u0 34 (by decide), p1, zU_cell (by decide)]
      unfold mTake
      by_cases hi : i < σ 3 1
      · rw [if_pos ⟨rfl, a, hi⟩, if_pos hi]
      · rw [if_neg (by omega), if_neg (by omega), if_neg (by omega), if_neg hi]
    have v35 : ∀ i : Int, 0 ≤ i → υ 35 i = if i < σ 3 1 then mSort (σ 4 i) else σ 35 i := fun i a => by
      rw [u0 35 (by decide), p1, zU_cell (by decide)]
      unfold mTake
      by_cases hi : i < σ 3 1
      · rw [if_neg (by omega), if_pos ⟨rfl, a, hi⟩, if_pos hi]
      · rw [if_neg (by omega), if_neg (by omega), if_neg (by omega), if_neg hi]
    have v3 : υ 3 1 = 0 := by rw [u0 3 (by decide), p1, zU_same]
    have v4 : υ 4 = σ 4 := by rw [u0 4 (by decide), t0 4 (by decide) (by decide) (by decide) (by decide)]
    have w105 : ∀ i : Int, 0 ≤ i → i < 24 → υ 105 i = if i < σ 3 1 then σ 4 i else σ 34 i := fun i a b => by
      rw [q1, zU_cell (by decide), zU_cell (by decide)]
      unfold mTakeM
      rw [ef 105 (by decide), ef 110 (by decide), ep.1]
      by_cases hi : i < σ 3 1
      · rw [if_pos ⟨rfl, a, hi⟩, if_pos hi, ep.2 i a (by omega)]
      · rw [if_neg (by omega), if_neg hi]
        exact h.2.2.1.2.2.1 i a b
    have w100 : ∀ j : Int, j ≠ 11 → j ≠ 18 → υ 100 j = σ 100 j := fun j a b => by rw [q1, zU_place b, zU_place a]; unfold mTakeM; rw [if_neg (by omega), ef 100 (by decide)]
    have w11 : υ 100 11 = σ 3 1 := by rw [q1, zU_place (by decide), zU_same, ep.1]
    have w18 : υ 100 18 = 0 := by rw [q1, zU_same]
    refine ⟨by rw [p2, q2, ep.1], jInv_m h (fun c hc => ?_) ?_ ⟨?_, fun i a b => ?_⟩ ?_ ⟨?_, fun i a b => ?_⟩⟩
    · by_cases h1 : c < 100
      · rw [u0 c h1, t0 c (by omega) (by omega) (by omega) (by omega)]
      · exact w0 c (by omega) (by omega)
    · obtain ⟨o1, o2, o3, o4, o5⟩ := h.1
      refine ⟨fun r a b => by rw [u0 (40 + r) (by omega), t0 (40 + r) (by omega) (by omega) (by omega) (by omega)]; exact o1 r a b, ?_, fun i a b => ?_, fun i a b => ?_, ?_⟩
      · rw [v32, v32, v32, v32, v32, v32, v32]
        simp
        omega
      · have o := o3 i a b
        have hp := h.2.1.2 i a (by omega)
        have hs := mSort_b (σ 4 i)
        rw [v34 i a, v35 i a]
        split <;> omega
      · rw [v32] at b
        simp at b
        rw [v34 i a, v35 i a, if_pos b, if_pos b]
      · rw [u0 36 (by decide), u0 37 (by decide), u0 38 (by decide), u0 39 (by decide), t0 36 (by decide) (by decide) (by decide) (by decide), t0 37 (by decide) (by decide) (by decide) (by decide), t0 38 (by decide) (by decide) (by decide) (by decide), t0 39 (by decide) (by decide) (by decide) (by decide)]
        exact o5
    · rw [v3]; decide
    · rw [v4]; exact h.2.1.2 i a b
    · obtain ⟨g1, g2, g3, g4⟩ := h.2.2.1
      refine ⟨fun r a b => by rw [u0 (40 + r) (by omega), t0 (40 + r) (by omega) (by omega) (by omega) (by omega), w0 101 (by decide) (by decide), w0 102 (by decide) (by decide), w0 103 (by decide) (by decide), w0 104 (by decide) (by decide)]; exact g1 r a b, ⟨?_, ?_⟩, fun i a b => by rw [w105 i a b, v34 i a], ?_⟩
      · unfold mBits
        rw [u0 40 (by decide), u0 41 (by decide), u0 42 (by decide), u0 43 (by decide), t0 40 (by decide) (by decide) (by decide) (by decide), t0 41 (by decide) (by decide) (by decide) (by decide), t0 42 (by decide) (by decide) (by decide) (by decide), t0 43 (by decide) (by decide) (by decide) (by decide), w100 0 (by decide) (by decide)]
        exact g2.1
      · rw [w11, w100 5 (by decide) (by decide), w100 6 (by decide) (by decide), w100 7 (by decide) (by decide), w100 8 (by decide) (by decide), w100 9 (by decide) (by decide), w100 16 (by decide) (by decide), v32, v32, v32, v32, v32, v32, v32]
        simp
        omega
      · rw [w0 106 (by decide) (by decide), w0 107 (by decide) (by decide), w0 108 (by decide) (by decide), w0 109 (by decide) (by decide), u0 36 (by decide), u0 37 (by decide), u0 38 (by decide), u0 39 (by decide), t0 36 (by decide) (by decide) (by decide) (by decide), t0 37 (by decide) (by decide) (by decide) (by decide), t0 38 (by decide) (by decide) (by decide) (by decide), t0 39 (by decide) (by decide) (by decide) (by decide)]
        exact g4
    · rw [w18, v3]
    · rw [v4, w0 110 (by decide) (by decide)]; exact ep.2 i a b
  · rw [if_pos c1] at p q
    obtain ⟨p1, rfl⟩ := p
    obtain ⟨q1, rfl⟩ := q
    exact ⟨p1.trans q1.symm, h⟩
theorem st_time {σ τ υ : zS} {r1 r2 : Int} (h : jInv σ) (rr so ef v : Int) (p : if ¬ (0 ≤ rr ∧ rr ≤ 3 ∧ σ (40 + rr) 0 = 1) then r1 = -1 ∧ τ = σ else if ¬ ((0 ≤ so ∧ so ≤ 4) ∧ (0 ≤ ef ∧ ef ≤ 4) ∧ 1 ≤ v ∧ v ≤ 300) then r1 = -2 ∧ τ = σ else if 6 ≤ σ 32 13 then r1 = -4 ∧ τ = σ else τ = mAddT σ rr so ef v ∧ r1 = σ 32 13 + 1) (q : if ¬ (0 ≤ rr ∧ rr ≤ 3 ∧ mBit (τ 100 0) rr = 1) then r2 = -1 ∧ υ = τ else if ¬ ((0 ≤ so ∧ so ≤ 4) ∧ (0 ≤ ef ∧ ef ≤ 4) ∧ 1 ≤ v ∧ v ≤ 300) then r2 = -2 ∧ υ = τ else if 6 ≤ τ 100 16 then r2 = -4 ∧ υ = τ else υ = jAddT τ rr so ef v ∧ r2 = τ 100 16 + 1) : r1 = r2 ∧ jInv υ := by
  have e := iv_sc h
  by_cases c1 : 0 ≤ rr ∧ rr ≤ 3 ∧ σ (40 + rr) 0 = 1
  · rw [if_neg (fun z => z c1)] at p
    have c2 := (iv_th h rr).1 c1
    have eff : ∀ c : Int, 100 ≤ c → τ c = σ c := by
      intro c hc
      (repeat' split at p) <;> (obtain ⟨p1, p2⟩ := p) <;> first | (rw [p2]; done) | (rw [p1]; unfold mAddT; funext j; unfold zU; (repeat' split) <;> first | rfl | (exfalso; omega))
    rw [eff 100 (by decide), if_neg (fun z => z c2)] at q
    by_cases c3 : (0 ≤ so ∧ so ≤ 4) ∧ (0 ≤ ef ∧ ef ≤ 4) ∧ 1 ≤ v ∧ v ≤ 300
    · rw [if_neg (fun z => z c3)] at p q
      have o := h.1.2.1
      by_cases c4 : 6 ≤ σ 32 13
      · rw [if_pos c4] at p
        rw [if_pos (by omega)] at q
        obtain ⟨p1, rfl⟩ := p
        obtain ⟨q1, rfl⟩ := q
        exact ⟨p1.trans q1.symm, h⟩
      · rw [if_neg c4] at p
        rw [if_neg (by omega)] at q
        obtain ⟨p1, p2⟩ := p
        obtain ⟨q1, q2⟩ := q
        have e16 : σ 100 16 = σ 32 13 := e.2.2.2.2.2.2
        have u0 : ∀ c : Int, c < 100 → υ c = τ c := fun c hc => by rw [q1]; unfold jAddT; rw [zU_cell (by omega), zU_cell (by omega), zU_cell (by omega), zU_cell (by omega), zU_cell (by omega)]
        have t0 : ∀ c : Int, (c < 32 ∨ c = 34 ∨ c = 35 ∨ (39 < c ∧ c < 100)) → υ c = σ c := fun c hc => by rw [u0 c (by omega), p1]; unfold mAddT; rw [zU_cell (by omega), zU_cell (by omega), zU_cell (by omega), zU_cell (by omega), zU_cell (by omega)]
        have w0 : ∀ c : Int, (100 < c ∧ c < 106 ∨ 109 < c) → υ c = σ c := fun c hc => by rw [q1]; unfold jAddT; rw [zU_cell (by omega), zU_cell (by omega), zU_cell (by omega), zU_cell (by omega), zU_cell (by omega), eff c (by omega)]
        have vo : ∀ j : Int, j ≠ 13 → υ 32 j = σ 32 j := fun j a => by rw [u0 32 (by decide), p1]; unfold mAddT; rw [zU_place a, zU_cell (by decide), zU_cell (by decide), zU_cell (by decide), zU_cell (by decide)]
        have v13 : υ 32 13 = σ 32 13 + 1 := by rw [u0 32 (by decide), p1]; unfold mAddT; rw [zU_same]
        have wo : ∀ j : Int, j ≠ 16 → υ 100 j = σ 100 j := fun j a => by rw [q1]; unfold jAddT; rw [zU_place a, zU_cell (by decide), zU_cell (by decide), zU_cell (by decide), zU_cell (by decide), eff 100 (by decide)]
        have w16 : υ 100 16 = σ 32 13 + 1 := by rw [q1]; unfold jAddT; rw [zU_same, eff 100 (by decide), e16]
        have x36 : ∀ i : Int, υ 36 i = if i = σ 32 13 then rr else σ 36 i := fun i => by rw [u0 36 (by decide), p1]; unfold mAddT zU; simp
        have x37 : ∀ i : Int, υ 37 i = if i = σ 32 13 then so else σ 37 i := fun i => by rw [u0 37 (by decide), p1]; unfold mAddT zU; simp
        have x38 : ∀ i : Int, υ 38 i = if i = σ 32 13 then ef else σ 38 i := fun i => by rw [u0 38 (by decide), p1]; unfold mAddT zU; simp
        have x39 : ∀ i : Int, υ 39 i = if i = σ 32 13 then v else σ 39 i := fun i => by rw [u0 39 (by decide), p1]; unfold mAddT zU; simp
        have y6 : ∀ i : Int, υ 106 i = if i = σ 32 13 then rr else σ 106 i := fun i => by rw [q1]; unfold jAddT zU; rw [eff 100 (by decide), eff 106 (by decide), e16]; simp
        have y7 : ∀ i : Int, υ 107 i = if i = σ 32 13 then so else σ 107 i := fun i => by rw [q1]; unfold jAddT zU; rw [eff 100 (by decide), eff 107 (by decide), e16]; simp
        have y8 : ∀ i : Int, υ 108 i = if i = σ 32 13 then ef else σ 108 i := fun i => by rw [q1]; unfold jAddT zU; rw [eff 100 (by decide), eff 108 (by decide), e16]; simp
        have y9 : ∀ i : Int, υ 109 i = if i = σ 32 13 then v else σ 109 i := fun i => by rw [q1]; unfold jAddT zU; rw [eff 100 (by decide), eff 109 (by decide), e16]; simp
        refine ⟨by rw [p2, q2, e16], jInv_m h (fun c hc => ?_) ?_ (pOK_c h.2.1 (t0 3 (by decide)) (t0 4 (by decide))) ?_ ?_⟩
        · by_cases h1 : c < 100
          · exact t0 c (by omega)
          · exact w0 c (by omega)
        · obtain ⟨o1, o2, o3, o4, o5⟩ := h.1
          refine ⟨fun r a b => by rw [t0 (40 + r) (by omega)]; exact o1 r a b, ?_, ?_, ?_, fun i a b => ?_⟩
          · rw [vo 7 (by decide), vo 8 (by decide), vo 9 (by decide), vo 10 (by decide), vo 11 (by decide), vo 12 (by decide), v13]
            omega
          · rw [t0 34 (by decide), t0 35 (by decide)]; exact o3
          · rw [t0 34 (by decide), t0 35 (by decide), vo 12 (by decide)]; exact o4
          · have o := o5 i a b
            rw [x36, x37, x38, x39]
            by_cases hi : i = σ 32 13
            · rw [if_pos hi, if_pos hi, if_pos hi, if_pos hi]; omega
            · rw [if_neg hi, if_neg hi, if_neg hi, if_neg hi]; exact o
        · obtain ⟨g1, g2, g3, g4⟩ := h.2.2.1
          refine ⟨fun r a b => by rw [t0 (40 + r) (by omega), w0 101 (by decide), w0 102 (by decide), w0 103 (by decide), w0 104 (by decide)]; exact g1 r a b, ⟨?_, ?_⟩, ?_, fun i a b => ?_⟩
          · unfold mBits
            rw [wo 0 (by decide), t0 40 (by decide), t0 41 (by decide), t0 42 (by decide), t0 43 (by decide)]; exact g2.1
          · rw [wo 5 (by decide), wo 6 (by decide), wo 7 (by decide), wo 8 (by decide), wo 9 (by decide), wo 11 (by decide), w16, vo 7 (by decide), vo 8 (by decide), vo 9 (by decide), vo 10 (by decide), vo 11 (by decide), vo 12 (by decide), v13]
            omega
          · rw [w0 105 (by decide), t0 34 (by decide)]; exact g3
          · have g := g4 i a b
            rw [x36, x37, x38, x39, y6, y7, y8, y9, g.1, g.2.1, g.2.2.1, g.2.2.2]
            exact ⟨rfl, rfl, rfl, rfl⟩
        · unfold pEq
          rw [wo 18 (by decide), w0 110 (by decide), t0 3 (by decide), t0 4 (by decide)]
          exact h.2.2.2.1
    · rw [if_pos c3] at p q
      obtain ⟨p1, rfl⟩ := p
      obtain ⟨q1, rfl⟩ := q
      exact ⟨p1.trans q1.symm, h⟩
  · rw [if_pos c1] at p
    obtain ⟨p1, rfl⟩ := p
    rw [if_pos (fun z => c1 ((iv_th h rr).2 z))] at q
    obtain ⟨q1, rfl⟩ := q
    exact ⟨p1.trans q1.symm, h⟩