theorem mRd_z (g : Int → Int) (n len : Int) : ∀ (k : Nat) {i : Int}, 0 ≤ i → mRd g n len k i = -6 ∨ 0 ≤ mRd g n len k i
  | 0, i, h => by
    have := mPl_b g n.toNat
    unfold mRd
    split
    · exact Or.inr this
    · exact Or.inl rfl
  | k + 1, i, h => by
    have h1 := mQ_b g i
    have h2 := mRd_z g n len k (i := i + 1) (by omega)
    unfold mRd
    repeat' split
    all_goals omega
def jPl (σ : zS) : Prop := mRd (mSgM σ) (σ 100 11) (σ 100 18) (σ 100 11).toNat 0 = -6
def jPln (σ ρ : zS) : Prop := (∀ k : Int, k < 111 ∨ 114 < k → ρ k = σ k) ∧ ∀ i : Int, 0 ≤ i → i < σ 100 11 → ρ 111 i = mRst (mSgM σ) i ∧ ρ 112 i = mEF (mSgM σ) i ∧ ρ 113 i = mEB (mSgM σ) i ∧ ρ 114 i = mBt (mSgM σ) i
def jFr (σ τ : zS) : Prop := ∀ c j : Int, ¬ (c = 100 ∧ 23 ≤ j ∧ j ≤ 30) → (c < 111 ∨ 114 < c) → τ c j = σ c j
def jNo (σ : zS) : Prop := jPl σ → ∃ (ρ : zS) (q : Int), jPln σ ρ ∧ 0 ≤ q ∧ q < σ 100 11 ∧ jY ρ q ≠ -6
def jYes (σ ρ : zS) : Prop := jPl σ ∧ jPln σ ρ ∧ ∀ j : Int, 0 ≤ j → j < σ 100 11 → jY ρ j = -6
theorem jFr_0 (σ : zS) : jFr σ σ := fun _ _ _ _ => rfl
theorem jFr_p {σ τ : zS} (h : ∀ k : Int, k < 111 ∨ 114 < k → τ k = σ k) : jFr σ τ := fun c j _ h2 => by rw [h c h2]
theorem jFr_s {σ τ υ : zS} (h : jFr σ τ) (g : jSame τ υ) : jFr σ υ := fun c j h1 h2 => (g c j h1).trans (h c j h1 h2)
theorem jFr_t {σ τ υ : zS} (h : jFr σ τ) (g : jFr τ υ) : jFr σ υ := fun c j h1 h2 => (g c j h1 h2).trans (h c j h1 h2)
theorem jPl_pl {σ ρ : zS} (hnm : 1 ≤ σ 100 11 ∧ σ 100 11 ≤ 24) (hk : jPl σ) (hp : jPln σ ρ) (hch : ∀ i : Int, 0 ≤ i → i < 24 → 0 ≤ σ 105 i ∧ σ 105 i ≤ 200) : ∀ i : Int, 0 ≤ i → i < σ 100 11 → ((ρ 111 i = 0 ∨ ρ 111 i = 1) ∧ (0 ≤ ρ 112 i ∧ ρ 112 i ≤ 4) ∧ (0 ≤ ρ 113 i ∧ ρ 113 i ≤ 4) ∧ (4 ≤ ρ 114 i ∧ ρ 114 i ≤ 10)) ∧ 0 ≤ ρ 105 i ∧ ρ 105 i ≤ 200 := fun i h1 h2 => by
  have o := mRd_ok (by omega) hk (fun i _ => mQ_b (mSgM σ) i) i h1 h2
  have r := mRst_or (mSgM σ) i
  have d := hp.2 i h1 h2
  rw [d.1, d.2.1, d.2.2.1, d.2.2.2, hp.1 105 (by omega)]
  exact ⟨⟨by omega, o.1, o.2.1, o.2.2⟩, hch i h1 (by omega)⟩
theorem jSame_j {σ τ : zS} (h : jSame σ τ) : jWF τ = jWF σ ∧ jWB τ = jWB σ ∧ jH τ = jH σ ∧ jS τ = jS σ ∧ jTF τ = jTF σ ∧ jTB τ = jTB σ ∧ jY τ = jY σ := by
  have e1 : jWF τ = jWF σ := by
    funext n
    unfold jWF
    rw [h 100 5 (by omega), jSame_c h (by decide : (103 : Int) ≠ 100), jSame_c h (by decide : (111 : Int) ≠ 100), jSame_c h (by decide : (112 : Int) ≠ 100)]
  have e2 : jWB τ = jWB σ := by
    funext n
    unfold jWB
    rw [h 100 6 (by omega), jSame_c h (by decide : (103 : Int) ≠ 100), jSame_c h (by decide : (111 : Int) ≠ 100), jSame_c h (by decide : (113 : Int) ≠ 100)]
  have e3 : jH τ = jH σ := by
    funext n
    unfold jH
    rw [jSame_c h (by decide : (111 : Int) ≠ 100), jSame_c h (by decide : (105 : Int) ≠ 100)]
  have eT : jT τ = jT σ := funext fun k => (jSame_w h k).2.2
  refine ⟨e1, e2, e3, ?_, funext fun k => (jSame_w h k).1, funext fun k => (jSame_w h k).2.1, ?_⟩
  · funext n
    unfold jS
    rw [eT, h 100 8 (by omega), jSame_c h (by decide : (111 : Int) ≠ 100)]
  · funext k
    unfold jY
    rw [e1, e2, e3, h 100 7 (by omega)]
theorem jOk_end {σ τ : zS} {u : Int} (h : jOk σ τ u ∨ ∃ q : Int, q < u ∧ jBad σ τ q) (hy : ∀ j : Int, 0 ≤ j → j < u → jY σ j = -6) : jOk σ τ u := by
  rcases h with h | ⟨q, h1, h2⟩
  · exact h
  · exact absurd (hy q h2.1 h1) h2.2.2.2.1
set_option maxRecDepth 20000 in
set_option maxHeartbeats 4000000 in
theorem c_X8_isRefused {l : Launch} {D : va_G} {Y : Nat → ClassId} {a : Int → Nat} (hI : zI a) (σ : zS)  (hrb : 0 ≤ σ 100 0 ∧ σ 100 0 ≤ 15) (hse : (0 ≤ σ 100 5 ∧ σ 100 5 ≤ 3) ∧ (0 ≤ σ 100 6 ∧ σ 100 6 ≤ 3)) (hnm : 1 ≤ σ 100 11 ∧ σ 100 11 ≤ 24) (hpm : 0 ≤ σ 100 18 ∧ σ 100 18 ≤ 110) (hpq : ∀ i : Int, 0 ≤ i → i < 110 → 0 ≤ σ 110 i ∧ σ 110 i ≤ 126) (hrd : ∀ r : Int, 0 ≤ r → r ≤ 3 → (0 ≤ σ 101 r ∧ σ 101 r ≤ 20) ∧ (0 ≤ σ 102 r ∧ σ 102 r ≤ 10) ∧ (0 ≤ σ 103 r ∧ σ 103 r ≤ 9)) (hho : 5 ≤ σ 100 7 ∧ σ 100 7 ≤ 20) (hpz : 0 ≤ σ 100 8 ∧ σ 100 8 ≤ 99) (hch : ∀ i : Int, 0 ≤ i → i < 24 → 0 ≤ σ 105 i ∧ σ 105 i ≤ 200) : zMet l yX8_isRefused cX8_isRefused 1 (some .boolean) 6 (zPc D Y a σ [.ref (a 100)]) (zQi D Y a (fun r τ => ((r = 1 ∧ jNo σ) ∨ (r = 0 ∧ ∃ ρ : zS, jYes σ ρ ∧ jSame ρ τ ∧ jOk ρ τ (σ 100 11))) ∧ jFr σ τ)) (inA a) := by
  refine z_start rfl (Nat.le_of_ble_eq_true rfl) hI ?_
  intro p e s m below meth c ls C hr hlocks hl hP
  have hS : va_S (inA a) s.heap s.heap [] := va_S.rf
  have hl : lv_has ls 1 [(0, .ref (a 100))] := hl
  skip
  refine z_aload_n C hl 0 rfl dX8_isRefused_0 ?_
  refine z_vQi hS C hP (As := []) lk_X8_142 (c_X8_faultOfPlan hI σ  hnm hpm hpq) ob_100 rfl rfl rfl hl.1 rfl (Nat.le_of_ble_eq_true rfl) ⟨Nat.le_of_ble_eq_true rfl, Nat.le_of_ble_eq_true rfl⟩ ⟨Nat.zero_le _, Nat.zero_le _⟩ dX8_isRefused_1 (fun r1 t2 H locs hp1 hP hS => ?_)
  have ft2 : jFr σ t2 := jFr_p hp1.2.1
  have hmr := And.intro (mRd_r (mSgM σ) (σ 100 11) (σ 100 18) hnm) (mRd_z (mSgM σ) (σ 100 11) (σ 100 18) (σ 100 11).toNat (i := 0) (by decide))
  refine z_if_lt C 9 dX8_isRefused_4 (by decide) ⟨by omega, by omega⟩ (fun c_4 => ?_) (fun c_4 => ?_)
  · have hk : jPl σ := hp1.1.symm.trans (by omega)
    have hpn : jPln σ t2 := ⟨hp1.2.1, hp1.2.2 (by omega)⟩
    refine z_aload_n C hl 0 rfl dX8_isRefused_9 ?_
    refine z_vQv hS C hP (As := []) lk_X8_210 (c_X8_rideAll hI t2  (by rw [ft2 100 11 (by omega) (by omega)]; exact hnm) (by rw [ft2 100 5 (by omega) (by omega), ft2 100 6 (by omega) (by omega)]; exact hse) (fun r h1 h2 => by rw [ft2 101 r (by omega) (by omega), ft2 102 r (by omega) (by omega), ft2 103 r (by omega) (by omega)]; exact hrd r h1 h2) (by rw [ft2 100 7 (by omega) (by omega)]; exact hho) (by rw [ft2 100 8 (by omega) (by omega)]; exact hpz) (by rw [ft2 100 11 (by omega) (by omega)]; exact jPl_pl hnm hk hpn hch)) ob_100 rfl rfl rfl hl.1 rfl (Nat.le_of_ble_eq_true rfl) ⟨Nat.le_of_ble_eq_true rfl, Nat.le_of_ble_eq_true rfl⟩ ⟨Nat.zero_le _, Nat.zero_le _⟩ dX8_isRefused_10 (fun t4 H locs hp10 hP hS => ?_)
    have ft4 : jFr σ t4 := jFr_s ft2 hp10.1
    have h23 : -6 ≤ t4 100 23 ∧ t4 100 23 ≤ 24 ∧ (t4 100 23 < 0 → jOk t2 t4 (σ 100 11)) ∧ (0 ≤ t4 100 23 → ∃ q : Int, 0 ≤ q ∧ q < σ 100 11 ∧ jY t2 q ≠ -6 ∧ (∀ j : Int, 0 ≤ j → j < q → jY t2 j = -6) ∧ t4 100 23 = q ∧ t4 100 24 = jY t2 q) := by have e11 := ft2 100 11 (by omega) (by omega); rw [e11] at hp10; rcases hp10.2 with h | ⟨q, h1, h2⟩; (exact ⟨by have := h.1; omega, by have := h.1; omega, fun _ => h, fun z => by have := h.1; omega⟩); (exact ⟨by have := h2.1; have := h2.2.1; omega, by have := h2.2.1; omega, fun z => by have := h2.1; have := h2.2.1; omega, fun _ => ⟨q, h2.1, h1, h2.2.2.2.1, h2.2.2.2.2, h2.2.1, h2.2.2.1⟩⟩)
    refine z_aload_n C hl 0 rfl dX8_isRefused_13 ?_
    refine zg_X8_156 C hP dX8_isRefused_14 ?_
    refine z_if_lt C 24 dX8_isRefused_17 (by decide) ⟨by omega, by omega⟩ (fun c_17 => ?_) (fun c_17 => ?_)
    · refine z_iconst C dX8_isRefused_24 ?_
      exact z_retQi C hP hS hr hlocks (zNb (by omega)) (by first | exact ⟨Or.inr ⟨rfl, t2, ⟨hk, hpn, (h23.2.2.1 (by omega)).2.2.2.2.2.2.2.2⟩, hp10.1, h23.2.2.1 (by omega)⟩, ft4⟩ | exact ⟨Or.inl ⟨rfl, fun _ => (by obtain ⟨q, q1, q2, q3, q4⟩ := h23.2.2.2 (by omega); exact ⟨t2, q, hpn, q1, q2, q3⟩)⟩, ft4⟩) dX8_isRefused_25
    · refine z_iconst C dX8_isRefused_20 ?_
      refine z_goto C 25 dX8_isRefused_21 (by decide) ?_
      exact z_retQi C hP hS hr hlocks (zNb (by omega)) (by first | exact ⟨Or.inr ⟨rfl, t2, ⟨hk, hpn, (h23.2.2.1 (by omega)).2.2.2.2.2.2.2.2⟩, hp10.1, h23.2.2.1 (by omega)⟩, ft4⟩ | exact ⟨Or.inl ⟨rfl, fun _ => (by obtain ⟨q, q1, q2, q3, q4⟩ := h23.2.2.2 (by omega); exact ⟨t2, q, hpn, q1, q2, q3⟩)⟩, ft4⟩) dX8_isRefused_25
  · refine z_iconst C dX8_isRefused_7 ?_
    exact z_retQi C hP hS hr hlocks (zNb (by omega)) (by exact ⟨Or.inl ⟨rfl, fun h => (by have h1 : _ = (-6 : Int) := hp1.1.trans h; omega)⟩, ft2⟩) dX8_isRefused_8

set_option maxRecDepth 20000 in
set_option maxHeartbeats 4000000 in
theorem c_X8_judge {l : Launch} {D : va_G} {Y : Nat → ClassId} {a : Int → Nat} (hI : zI a) (σ : zS) (wh : Int) (r1 : R3 wh) (hrb : 0 ≤ σ 100 0 ∧ σ 100 0 ≤ 15) (hse : (0 ≤ σ 100 5 ∧ σ 100 5 ≤ 3) ∧ (0 ≤ σ 100 6 ∧ σ 100 6 ≤ 3)) (hnm : 1 ≤ σ 100 11 ∧ σ 100 11 ≤ 24) (hpm : 0 ≤ σ 100 18 ∧ σ 100 18 ≤ 110) (hpq : ∀ i : Int, 0 ≤ i → i < 110 → 0 ≤ σ 110 i ∧ σ 110 i ≤ 126) (hrd : ∀ r : Int, 0 ≤ r → r ≤ 3 → (0 ≤ σ 101 r ∧ σ 101 r ≤ 20) ∧ (0 ≤ σ 102 r ∧ σ 102 r ≤ 10) ∧ (0 ≤ σ 103 r ∧ σ 103 r ≤ 9)) (hho : 5 ≤ σ 100 7 ∧ σ 100 7 ≤ 20) (hpz : 0 ≤ σ 100 8 ∧ σ 100 8 ≤ 99) (hch : ∀ i : Int, 0 ≤ i → i < 24 → 0 ≤ σ 105 i ∧ σ 105 i ≤ 200) : zMet l yX8_judge cX8_judge 2 (some .int) 6 (zPc D Y a σ [.ref (a 100), .int (iI wh)]) (zQi D Y a (fun r τ => (¬ (mBit (σ 100 0) (σ 100 5) = 1 ∧ mBit (σ 100 0) (σ 100 6) = 1 ∧ σ 100 5 ≠ σ 100 6) → r = -3) ∧ (mBit (σ 100 0) (σ 100 5) = 1 ∧ mBit (σ 100 0) (σ 100 6) = 1 ∧ σ 100 5 ≠ σ 100 6 → ¬ (0 ≤ wh ∧ wh ≤ 1) → r = -2) ∧ (mBit (σ 100 0) (σ 100 5) = 1 ∧ mBit (σ 100 0) (σ 100 6) = 1 ∧ σ 100 5 ≠ σ 100 6 → 0 ≤ wh ∧ wh ≤ 1 → (¬ jPl σ ∧ r = -5) ∨ (jPl σ ∧ ∃ ρ : zS, jPln σ ρ ∧ (((∀ j : Int, 0 ≤ j → j < σ 100 11 → jY ρ j = -6) ∧ r = -6) ∨ ∃ q : Int, 0 ≤ q ∧ q < σ 100 11 ∧ jY ρ q ≠ -6 ∧ (∀ j : Int, 0 ≤ j → j < q → jY ρ j = -6) ∧ r = if wh = 0 then q else jY ρ q))) ∧ jFr σ τ)) (inA a) := by
  refine z_start rfl (Nat.le_of_ble_eq_true rfl) hI ?_
  intro p e s m below meth c ls C hr hlocks hl hP
  have hS : va_S (inA a) s.heap s.heap [] := va_S.rf
  have hl : lv_has ls 2 [(0, .ref (a 100)), (1, .int (iI wh))] := hl
  skip
  refine z_aload_n C hl 0 rfl dX8_judge_0 ?_
  refine z_vSi C hP (As := []) lk_X8_206 (c_X8_isNobody hI σ  hrb hse) ob_100 rfl rfl rfl hl.1 rfl (Nat.le_of_ble_eq_true rfl) ⟨Nat.le_of_ble_eq_true rfl, Nat.le_of_ble_eq_true rfl⟩ ⟨Nat.zero_le _, Nat.zero_le _⟩ dX8_judge_1 ?_
  by_cases b_1 : ¬ (mBit (σ 100 0) (σ 100 5) = 1 ∧ mBit (σ 100 0) (σ 100 6) = 1 ∧ σ 100 5 ≠ σ 100 6)
  · rw [show (if ¬ (mBit (σ 100 0) (σ 100 5) = 1 ∧ mBit (σ 100 0) (σ 100 6) = 1 ∧ σ 100 5 ≠ σ 100 6) then (1 : Int) else 0) = 1 from if_pos b_1]
    refine z_ifF_eq C 10 dX8_judge_4 (by decide) ⟨by decide, by decide⟩ (by decide) ?_
    refine z_bipush C (by decide +kernel) dX8_judge_7 ?_
    exact z_retQi C hP hS hr hlocks rfl (by exact ⟨fun _ => rfl, fun h => absurd h b_1, fun h => absurd h b_1, jFr_0 _⟩) dX8_judge_9
  · rw [show (if ¬ (mBit (σ 100 0) (σ 100 5) = 1 ∧ mBit (σ 100 0) (σ 100 6) = 1 ∧ σ 100 5 ≠ σ 100 6) then (1 : Int) else 0) = 0 from if_neg b_1]
    refine z_ifT_eq C 10 dX8_judge_4 (by decide) ⟨by decide, by decide⟩ (by decide) ?_
    refine z_iload_n C hl 1 rfl dX8_judge_10 ?_
    refine z_i2l C ⟨by omega, by omega⟩ dX8_judge_11 ?_
    refine z_lconst C (z := 0) rfl dX8_judge_12 ?_
    refine z_lconst C (z := 1) rfl dX8_judge_13 ?_
    refine z_sSi C hP (As := [.long (jI wh), .long (jI 0), .long (jI 1)]) lk_X8_86 (c_X8_in hI σ wh 0 1 ⟨by omega, by omega⟩ ⟨by omega, by omega⟩ ⟨by omega, by omega⟩) rfl hl.1 rfl (Nat.le_of_ble_eq_true rfl) ⟨Nat.le_of_ble_eq_true rfl, Nat.le_of_ble_eq_true rfl⟩ ⟨Nat.zero_le _, Nat.zero_le _⟩ dX8_judge_14 ?_
    by_cases b_14 : 0 ≤ wh ∧ wh ≤ 1
    · rw [show (if 0 ≤ wh ∧ wh ≤ 1 then (1 : Int) else 0) = 1 from if_pos b_14]
      refine z_ifT_ne C 23 dX8_judge_17 (by decide) ⟨by decide, by decide⟩ (by decide) ?_
      refine z_aload_n C hl 0 rfl dX8_judge_23 ?_
      refine z_vQi hS C hP (As := []) lk_X8_142 (c_X8_faultOfPlan hI σ  hnm hpm hpq) ob_100 rfl rfl rfl hl.1 rfl (Nat.le_of_ble_eq_true rfl) ⟨Nat.le_of_ble_eq_true rfl, Nat.le_of_ble_eq_true rfl⟩ ⟨Nat.zero_le _, Nat.zero_le _⟩ dX8_judge_24 (fun r1 t2 H locs hp24 hP hS => ?_)
      have ft2 : jFr σ t2 := jFr_p hp24.2.1
      have hmr := And.intro (mRd_r (mSgM σ) (σ 100 11) (σ 100 18) hnm) (mRd_z (mSgM σ) (σ 100 11) (σ 100 18) (σ 100 11).toNat (i := 0) (by decide))
      refine z_if_lt C 33 dX8_judge_27 (by decide) ⟨by omega, by omega⟩ (fun c_27 => ?_) (fun c_27 => ?_)
      · have hk : jPl σ := hp24.1.symm.trans (by omega)
        have hpn : jPln σ t2 := ⟨hp24.2.1, hp24.2.2 (by omega)⟩
        refine z_aload_n C hl 0 rfl dX8_judge_33 ?_
        refine z_vQv hS C hP (As := []) lk_X8_210 (c_X8_rideAll hI t2  (by rw [ft2 100 11 (by omega) (by omega)]; exact hnm) (by rw [ft2 100 5 (by omega) (by omega), ft2 100 6 (by omega) (by omega)]; exact hse) (fun r h1 h2 => by rw [ft2 101 r (by omega) (by omega), ft2 102 r (by omega) (by omega), ft2 103 r (by omega) (by omega)]; exact hrd r h1 h2) (by rw [ft2 100 7 (by omega) (by omega)]; exact hho) (by rw [ft2 100 8 (by omega) (by omega)]; exact hpz) (by rw [ft2 100 11 (by omega) (by omega)]; exact jPl_pl hnm hk hpn hch)) ob_100 rfl rfl rfl hl.1 rfl (Nat.le_of_ble_eq_true rfl) ⟨Nat.le_of_ble_eq_true rfl, Nat.le_of_ble_eq_true rfl⟩ ⟨Nat.zero_le _, Nat.zero_le _⟩ dX8_judge_34 (fun t4 H locs hp34 hP hS => ?_)
        have ft4 : jFr σ t4 := jFr_s ft2 hp34.1
        have h23 : -6 ≤ t4 100 23 ∧ t4 100 23 ≤ 24 ∧ (t4 100 23 < 0 → jOk t2 t4 (σ 100 11)) ∧ (0 ≤ t4 100 23 → ∃ q : Int, 0 ≤ q ∧ q < σ 100 11 ∧ jY t2 q ≠ -6 ∧ (∀ j : Int, 0 ≤ j → j < q → jY t2 j = -6) ∧ t4 100 23 = q ∧ t4 100 24 = jY t2 q) := by have e11 := ft2 100 11 (by omega) (by omega); rw [e11] at hp34; rcases hp34.2 with h | ⟨q, h1, h2⟩; (exact ⟨by have := h.1; omega, by have := h.1; omega, fun _ => h, fun z => by have := h.1; omega⟩); (exact ⟨by have := h2.1; have := h2.2.1; omega, by have := h2.2.1; omega, fun z => by have := h2.1; have := h2.2.1; omega, fun _ => ⟨q, h2.1, h1, h2.2.2.2.1, h2.2.2.2.2, h2.2.1, h2.2.2.1⟩⟩)
        refine z_iload_n C hl 1 rfl dX8_judge_37 ?_
        refine z_if_ne C 48 dX8_judge_38 (by decide) ⟨by omega, by omega⟩ (fun c_38 => ?_) (fun c_38 => ?_)
        · refine z_aload_n C hl 0 rfl dX8_judge_48 ?_
          refine zg_X8_159 C hP dX8_judge_49 ?_
          exact z_retQi C hP hS hr hlocks rfl (by refine ⟨fun h => absurd h b_1, fun _ h => absurd b_14 h, fun _ _ => Or.inr ⟨hk, t2, hpn, ?_⟩, ft4⟩; exact if h0 : t4 100 23 < 0 then Or.inl ⟨(h23.2.2.1 h0).2.2.2.2.2.2.2.2, (by have := h23.2.2.1 h0; first | exact this.1 | exact this.2.1)⟩ else Or.inr (by obtain ⟨q, q1, q2, q3, q4, q5, q6⟩ := h23.2.2.2 (by omega); exact ⟨q, q1, q2, q3, q4, (by first | (rw [if_pos (by omega)]; exact q5) | (rw [if_neg (by omega)]; exact q6))⟩)) dX8_judge_52
        · refine z_aload_n C hl 0 rfl dX8_judge_41 ?_
          refine zg_X8_156 C hP dX8_judge_42 ?_
          refine z_goto C 52 dX8_judge_45 (by decide) ?_
          exact z_retQi C hP hS hr hlocks rfl (by refine ⟨fun h => absurd h b_1, fun _ h => absurd b_14 h, fun _ _ => Or.inr ⟨hk, t2, hpn, ?_⟩, ft4⟩; exact if h0 : t4 100 23 < 0 then Or.inl ⟨(h23.2.2.1 h0).2.2.2.2.2.2.2.2, (by have := h23.2.2.1 h0; first | exact this.1 | exact this.2.1)⟩ else Or.inr (by obtain ⟨q, q1, q2, q3, q4, q5, q6⟩ := h23.2.2.2 (by omega); exact ⟨q, q1, q2, q3, q4, (by first | (rw [if_pos (by omega)]; exact q5) | (rw [if_neg (by omega)]; exact q6))⟩)) dX8_judge_52
      · refine z_bipush C (by decide +kernel) dX8_judge_30 ?_
        exact z_retQi C hP hS hr hlocks rfl (by exact ⟨fun h => absurd h b_1, fun _ h => absurd b_14 h, fun _ _ => Or.inl ⟨fun h => (by have h1 : _ = (-6 : Int) := hp24.1.trans h; omega), rfl⟩, ft2⟩) dX8_judge_32
    · rw [show (if 0 ≤ wh ∧ wh ≤ 1 then (1 : Int) else 0) = 0 from if_neg b_14]
      refine z_ifF_ne C 23 dX8_judge_17 (by decide) ⟨by decide, by decide⟩ (by decide) ?_
      refine z_bipush C (by decide +kernel) dX8_judge_20 ?_
      exact z_retQi C hP hS hr hlocks rfl (by exact ⟨fun h => absurd h b_1, fun _ _ => rfl, fun _ h => absurd h b_14, jFr_0 _⟩) dX8_judge_22
