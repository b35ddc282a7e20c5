def jOk (σ τ : zS) (k : Int) : Prop := τ 100 23 = -6 ∧ τ 100 24 = -6 ∧ τ 100 25 = jS σ k.toNat ∧ τ 100 26 = jWF σ k.toNat ∧ τ 100 27 = jWB σ k.toNat ∧ τ 100 28 = jH σ k.toNat ∧ τ 100 29 = mSum (jTF σ) k.toNat ∧ τ 100 30 = mSum (jTB σ) k.toNat ∧ ∀ j : Int, 0 ≤ j → j < k → jY σ j = -6
def jBad (σ τ : zS) (q : Int) : Prop := 0 ≤ q ∧ τ 100 23 = q ∧ τ 100 24 = jY σ q ∧ jY σ q ≠ -6 ∧ ∀ j : Int, 0 ≤ j → j < q → jY σ j = -6
theorem jSame_c {σ τ : zS} (h : jSame σ τ) {c : Int} (hc : c ≠ 100) : τ c = σ c := funext fun j => h c j (fun q => hc q.1)
theorem jSame_w {σ τ : zS} (h : jSame σ τ) (k : Int) : jTF τ k = jTF σ k ∧ jTB τ k = jTB σ k ∧ jT τ k = jT σ k := by
  have e1 : jTF τ k = jTF σ k := by
    unfold jTF
    rw [h 100 5 (by omega), jSame_c h (by decide : (101 : Int) ≠ 100), jSame_c h (by decide : (102 : Int) ≠ 100), jSame_c h (by decide : (112 : Int) ≠ 100), jSame_c h (by decide : (114 : Int) ≠ 100)]
  have e2 : jTB τ k = jTB σ k := by
    unfold jTB
    rw [h 100 6 (by omega), jSame_c h (by decide : (101 : Int) ≠ 100), jSame_c h (by decide : (102 : Int) ≠ 100), jSame_c h (by decide : (113 : Int) ≠ 100), jSame_c h (by decide : (114 : Int) ≠ 100)]
  refine ⟨e1, e2, ?_⟩
  unfold jT
  rw [e1, e2, jSame_c h (by decide : (105 : Int) ≠ 100)]
theorem jSame_t {σ τ υ : zS} (h : jSame σ τ) (g : jSame τ υ) : jSame σ υ := fun c j hc => (g c j hc).trans (h c j hc)

theorem jStep {σ τ υ : zS} {k : Int} (hk : 0 ≤ k) (hS : jSame σ τ) (hO : jOk σ τ k) (hP : jSame τ υ ∧ υ 100 26 = mWind (τ 103 (τ 100 5)) (if τ 111 k = 1 then τ 103 (τ 100 5) else τ 100 26) (τ 112 k) ∧ υ 100 27 = mWind (τ 103 (τ 100 6)) (if τ 111 k = 1 then τ 103 (τ 100 6) else τ 100 27) (τ 113 k) ∧ υ 100 28 = mHeat (if τ 111 k = 1 then 0 else τ 100 28) (mSort (τ 105 k)) ∧ υ 100 24 = mWhy (υ 100 26) (υ 100 27) (υ 100 28) (τ 100 7) ∧ υ 100 23 = (if υ 100 24 = -6 then -6 else k) ∧ υ 100 29 = τ 100 29 + jTF τ k ∧ υ 100 30 = τ 100 30 + jTB τ k ∧ υ 100 25 = (if τ 111 k = 1 then τ 100 25 + τ 100 8 else τ 100 25) + jT τ k) : jSame σ υ ∧ (jOk σ υ (k + 1) ∨ jBad σ υ k) := by
  obtain ⟨p0, p26, p27, p28, p24, p23, p29, p30, p25⟩ := hP
  obtain ⟨o23, o24, o25, o26, o27, o28, o29, o30, oY⟩ := hO
  have w := jSame_w hS k
  rw [jSame_c hS (by decide : (103 : Int) ≠ 100), jSame_c hS (by decide : (111 : Int) ≠ 100), jSame_c hS (by decide : (112 : Int) ≠ 100), hS 100 5 (by omega), o26] at p26
  rw [jSame_c hS (by decide : (103 : Int) ≠ 100), jSame_c hS (by decide : (111 : Int) ≠ 100), jSame_c hS (by decide : (113 : Int) ≠ 100), hS 100 6 (by omega), o27] at p27
  rw [jSame_c hS (by decide : (111 : Int) ≠ 100), jSame_c hS (by decide : (105 : Int) ≠ 100), o28] at p28
  rw [jSame_c hS (by decide : (111 : Int) ≠ 100), hS 100 8 (by omega), o25, w.2.2] at p25
  rw [w.1, o29] at p29
  rw [w.2.1, o30] at p30
  have q26 : υ 100 26 = jWF σ (k + 1).toNat := by rw [jWF, rdW_s _ _ _ hk]; exact p26
  have q27 : υ 100 27 = jWB σ (k + 1).toNat := by rw [jWB, rdW_s _ _ _ hk]; exact p27
  have q28 : υ 100 28 = jH σ (k + 1).toNat := by rw [jH, rdH_s _ _ hk]; exact p28
  have q25 : υ 100 25 = jS σ (k + 1).toNat := by rw [jS, rdS_s _ _ _ hk]; exact p25
  have q24 : υ 100 24 = jY σ k := by rw [p24, q26, q27, q28, hS 100 7 (by omega)]; rfl
  refine ⟨jSame_t hS p0, ?_⟩
  by_cases hy : jY σ k = -6
  · refine Or.inl ⟨by rw [p23, q24, if_pos hy], q24.trans hy, q25, q26, q27, q28, by rw [mSum_s _ hk]; exact p29, by rw [mSum_s _ hk]; exact p30, fun j h1 h2 => ?_⟩
    by_cases hj : j = k
    · rw [hj]; exact hy
    · exact oY j h1 (by omega)
  · exact Or.inr ⟨hk, by rw [p23, q24, if_neg hy], q24, hy, oY⟩