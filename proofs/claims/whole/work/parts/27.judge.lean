theorem kFirst (Z : Int → Int) : ∀ n : Nat, (∀ j : Int, 0 ≤ j → j < n → Z j = -6) ∨ ∃ q : Int, 0 ≤ q ∧ q < n ∧ Z q ≠ -6 ∧ ∀ j : Int, 0 ≤ j → j < q → Z j = -6
  | 0 => Or.inl (fun j h1 h2 => by omega)
  | n + 1 => by
    rcases kFirst Z n with h | ⟨q, h1, h2, h3, h4⟩
    · by_cases hz : Z n = -6
      · exact Or.inl (fun j h1 h2 => if hj : j = n then by rw [hj]; exact hz else h j h1 (by omega))
      · exact Or.inr ⟨n, by omega, by omega, hz, h⟩
    · exact Or.inr ⟨q, h1, by omega, h3, h4⟩
theorem mWhy_r (wf wb hot hottest : Int) : mWhy wf wb hot hottest = -6 ∨ (1 ≤ mWhy wf wb hot hottest ∧ mWhy wf wb hot hottest ≤ 3) := by
  unfold mWhy
  repeat' split
  all_goals omega
theorem read_like {σ τ : zS} (hF : ∀ k : Int, k < 6 ∨ 9 < k → τ k = σ k) (hD : ∀ i : Int, 0 ≤ i → i < σ 32 12 → τ 6 i = mRst (mSg σ) i ∧ τ 7 i = mEF (mSg σ) i ∧ τ 8 i = mEB (mSg σ) i ∧ τ 9 i = mBt (mSg σ) i) : kLike τ (kRho σ) := by
  refine ⟨fun k hk => by rw [hF k (by omega), kRho_c σ (by omega)], fun j h1 h2 => ?_⟩
  rw [kRho_c σ (by omega : (32 : Int) < 6 ∨ 9 < (32 : Int))] at h2
  have := hD j h1 h2
  unfold kRho
  rw [if_pos rfl, if_neg (by omega), if_pos rfl, if_neg (by omega), if_neg (by omega), if_pos rfl, if_neg (by omega), if_neg (by omega), if_neg (by omega), if_pos rfl]
  exact this
theorem read_pln {σ τ : zS} (hn : 1 ≤ σ 32 12 ∧ σ 32 12 ≤ 24) (hF : ∀ k : Int, k < 6 ∨ 9 < k → τ k = σ k) (hD : ∀ i : Int, 0 ≤ i → i < σ 32 12 → τ 6 i = mRst (mSg σ) i ∧ τ 7 i = mEF (mSg σ) i ∧ τ 8 i = mEB (mSg σ) i ∧ τ 9 i = mBt (mSg σ) i) (hk : kPl σ) : ∀ i : Int, 0 ≤ i → i < τ 32 12 → (τ 6 i = 0 ∨ τ 6 i = 1) ∧ (0 ≤ τ 7 i ∧ τ 7 i ≤ 4) ∧ (0 ≤ τ 8 i ∧ τ 8 i ≤ 4) ∧ (4 ≤ τ 9 i ∧ τ 9 i ≤ 10) := fun i h1 h2 => by
  rw [hF 32 (by omega)] at h2
  have d := hD i h1 h2
  have o := mRd_ok (by omega) hk (fun i _ => mQ_b (mSg σ) i) i h1 h2
  have r := mRst_or (mSg σ) i
  rw [d.1, d.2.1, d.2.2.1, d.2.2.2]
  exact ⟨by omega, o.1, o.2.1, o.2.2⟩
theorem kGo_or {σ σ1 τ : zS} (hn : 1 ≤ σ 32 12 ∧ σ 32 12 ≤ 24) (hse : (0 ≤ σ 32 7 ∧ σ 32 7 ≤ 3) ∧ (0 ≤ σ 32 8 ∧ σ 32 8 ≤ 3)) (hl : kLike σ1 (kRho σ)) (g : kGo σ1 τ (-1)) : (τ 10 4 = -6 ∧ τ 10 5 = -6 ∧ kAll σ ∧ kA (kRho σ) τ (σ 32 12).toNat ∧ kD (kRho σ) τ (-1) (σ 32 12)) ∨ ((0 ≤ τ 10 4 ∧ τ 10 4 < 24 ∧ 1 ≤ τ 10 5 ∧ τ 10 5 ≤ 3) ∧ ¬ kAll σ ∧ τ 10 4 < σ 32 12 ∧ τ 10 5 = kY (kRho σ) (-1) (τ 10 4) ∧ ∀ j : Int, 0 ≤ j → j < τ 10 4 → kY (kRho σ) (-1) j = -6) := by
  have e : kRho σ 32 = σ 32 := kRho_c σ (by omega)
  have k := kGo_like hl (by rw [e]; exact hse) (by rw [e]; exact hn) g
  rw [e] at k
  rcases kFirst (kY (kRho σ) (-1)) (σ 32 12).toNat with h | ⟨q, h1, h2, h3, h4⟩
  · have ha : kAll σ := fun j h1 h2 => h j h1 (by omega)
    have := k.1 ha
    exact Or.inl ⟨this.1.1, this.1.2.1, ha, this.1, this.2⟩
  · have := k.2 q h1 (by omega) h3 h4
    have hw := mWhy_r (kWF (kRho σ) (-1) (q + 1).toNat) (kWB (kRho σ) (-1) (q + 1).toNat) (kH (kRho σ) (-1) (q + 1).toNat) (kRho σ 32 9)
    have hy : kY (kRho σ) (-1) q = mWhy (kWF (kRho σ) (-1) (q + 1).toNat) (kWB (kRho σ) (-1) (q + 1).toNat) (kH (kRho σ) (-1) (q + 1).toNat) (kRho σ 32 9) := rfl
    rw [← hy] at hw
    refine Or.inr ⟨⟨by omega, by omega, by omega, by omega⟩, fun ha => h3 (ha q h1 (by omega)), by omega, by rw [this.1]; exact this.2, by rw [this.1]; exact h4⟩

theorem mRd_r (g : Int → Int) (n len : Int) (hn : 1 ≤ n ∧ n ≤ 24) : -6 ≤ mRd g n len n.toNat 0 ∧ mRd g n len n.toNat 0 ≤ 200 := by
  have hp : ∀ m : Nat, 0 ≤ mPl g m ∧ mPl g m ≤ 4 * m := by
    intro m
    induction m with
    | zero => exact ⟨Int.le_refl _, Int.le_refl _⟩
    | succ m ih =>
      show 0 ≤ mPl g m + (if g (mPl g m) = 82 then 1 else 0) + 3 ∧ mPl g m + (if g (mPl g m) = 82 then 1 else 0) + 3 ≤ _
      split <;> omega
  have key : ∀ (k : Nat) (i : Int), 0 ≤ i → i + k = n → -6 ≤ mRd g n len k i ∧ mRd g n len k i ≤ 200 := by
    intro k
    induction k with
    | zero =>
      intro i h1 h2
      have := hp n.toNat
      unfold mRd
      split <;> omega
    | succ k ih =>
      intro i h1 h2
      have h3 := hp i.toNat
      have h4 := mRst_or g i
      have h5 : mQ g i = mPl g i.toNat + mRst g i := rfl
      have h6 := ih (i + 1) (by omega) (by omega)
      unfold mRd
      repeat' split
      all_goals omega
  exact key n.toNat 0 (by omega) (by omega)

set_option maxRecDepth 20000 in
set_option maxHeartbeats 4000000 in
theorem c_X7_planIsRidden {l : Launch} {D : va_G} {Y : Nat → ClassId} {a : Int → Nat} (hI : zI a) (σ : zS)  (hth : ∀ r : Int, 0 ≤ r → r ≤ 3 → σ (40 + r) 0 = 0 ∨ σ (40 + r) 0 = 1) (hn : 1 ≤ σ 32 12 ∧ σ 32 12 ≤ 24) (hg : ∀ i : Int, 0 ≤ i → i < 24 → -1 ≤ σ 35 i ∧ σ 35 i ≤ 6) (hse : (0 ≤ σ 32 7 ∧ σ 32 7 ≤ 3) ∧ (0 ≤ σ 32 8 ∧ σ 32 8 ≤ 3)) (hrd : ∀ r : Int, 0 ≤ r → r ≤ 3 → (0 ≤ σ (40 + r) 1 ∧ σ (40 + r) 1 ≤ 20) ∧ (0 ≤ σ (40 + r) 2 ∧ σ (40 + r) 2 ≤ 10) ∧ (0 ≤ σ (40 + r) 3 ∧ σ (40 + r) 3 ≤ 9) ∧ (0 ≤ σ (40 + r) 4 ∧ σ (40 + r) 4 ≤ 50)) (hho : 5 ≤ σ 32 9 ∧ σ 32 9 ≤ 20) (hpz : 0 ≤ σ 32 10 ∧ σ 32 10 ≤ 99) (hp : 0 ≤ σ 3 1 ∧ σ 3 1 ≤ 110) (hq : ∀ i : Int, 0 ≤ i → i < 110 → 0 ≤ σ 4 i ∧ σ 4 i ≤ 126) : zMet l yX7_planIsRidden cX7_planIsRidden 1 (some .boolean) 4 (zPc D Y a σ [.ref (a 0)]) (zQi D Y a (fun r τ => ((r = 1 ∧ kPl σ ∧ kAll σ ∧ kA (kRho σ) τ (σ 32 12).toNat ∧ kD (kRho σ) τ (-1) (σ 32 12)) ∨ (r = 0 ∧ ¬ (kPl σ ∧ kAll σ))) ∧ (∀ k : Int, k < 6 ∨ 14 < k → τ k = σ k))) (inA a) := by
  refine z_start rfl (Nat.le_of_ble_eq_true rfl) hI ?_
  intro p e s m below meth c ls C hr hlocks hl hP
  have hS : va_S (inA a) s.heap s.heap [] := va_S.rf
  have hl : lv_has ls 1 [(0, .ref (a 0))] := hl
  skip
  refine z_aload_n C hl 0 rfl dX7_planIsRidden_0 ?_
  refine zg_X7_34 C hP dX7_planIsRidden_1 ?_
  refine z_aload_n C hl 0 rfl dX7_planIsRidden_4 ?_
  refine zg_X7_27 C hP dX7_planIsRidden_5 ?_
  refine z_aload_n C hl 0 rfl dX7_planIsRidden_8 ?_
  refine zg_X7_12 C hP dX7_planIsRidden_9 ?_
  refine zg32_X7_104 C hP dX7_planIsRidden_12 ?_
  refine z_vQi hS C hP (As := [.ref (a 3), .int (iI (σ 32 12))]) lk_X7_107 (c_X2_read hI σ (σ 32 12) hn hp hq) ob_5 rfl rfl rfl hl.1 rfl (Nat.le_of_ble_eq_true rfl) ⟨Nat.le_of_ble_eq_true rfl, Nat.le_of_ble_eq_true rfl⟩ ⟨Nat.zero_le _, Nat.zero_le _⟩ dX7_planIsRidden_15 (fun r1 t2 H locs hp15 hP hS => ?_)
  have ft2 : ∀ k : Int, k < 6 ∨ 14 < k → t2 k = σ k := fun k hk => hp15.2.1 k (by omega)
  have hmr := mRd_r (mSg σ) (σ 32 12) (σ 3 1) hn
  refine z_bipush C (by decide +kernel) dX7_planIsRidden_18 ?_
  refine z_icmp_eq C 25 dX7_planIsRidden_20 (by decide) ⟨by omega, by omega⟩ ⟨by omega, by omega⟩ (fun c_20 => ?_) (fun c_20 => ?_)
  · have hk : kPl σ := hp15.1.symm.trans c_20
    refine z_aload_n C hl 0 rfl dX7_planIsRidden_25 ?_
    refine zg_X7_41 C hP dX7_planIsRidden_26 ?_
    refine z_aload_n C hl 0 rfl dX7_planIsRidden_29 ?_
    refine zg_X7_12 C hP dX7_planIsRidden_30 ?_
    refine z_aload_n C hl 0 rfl dX7_planIsRidden_33 ?_
    refine zg_X7_34 C hP dX7_planIsRidden_34 ?_
    refine z_iconst C dX7_planIsRidden_37 ?_
    refine z_vQv hS C hP (As := [.ref (a 32), .ref (a 5), .int (iI (-1))]) lk_X7_126 (c_X3_go hI t2 (-1) (by omega) (by rw [hp15.2.1 32 (by omega)]; exact hn) (by rw [hp15.2.1 35 (by omega)]; exact hg) (by rw [hp15.2.1 32 (by omega)]; exact hse) (fun r h1 h2 => by rw [hp15.2.1 (40 + r) (by omega)]; exact hrd r h1 h2) (by rw [hp15.2.1 32 (by omega)]; exact hho) (by rw [hp15.2.1 32 (by omega)]; exact hpz) (read_pln hn hp15.2.1 (hp15.2.2 (by omega)) hk)) ob_10 rfl rfl rfl hl.1 rfl (Nat.le_of_ble_eq_true rfl) ⟨Nat.le_of_ble_eq_true rfl, Nat.le_of_ble_eq_true rfl⟩ ⟨Nat.zero_le _, Nat.zero_le _⟩ dX7_planIsRidden_38 (fun t4 H locs hp38 hP hS => ?_)
    have ft4 : ∀ k : Int, k < 6 ∨ 14 < k → t4 k = σ k := fun k hk => by rw [hp38.1 k (by omega), hp15.2.1 k (by omega)]
    have hst := kGo_or hn hse (read_like hp15.2.1 (hp15.2.2 (by omega))) hp38
    refine z_aload_n C hl 0 rfl dX7_planIsRidden_41 ?_
    refine zg_X7_41 C hP dX7_planIsRidden_42 ?_
    refine zg_X7_130 C hP dX7_planIsRidden_45 ?_
    refine z_bipush C (by decide +kernel) dX7_planIsRidden_48 ?_
    refine z_icmp_ne C 57 dX7_planIsRidden_50 (by decide) ⟨by omega, by omega⟩ ⟨by omega, by omega⟩ (fun c_50 => ?_) (fun c_50 => ?_)
    · refine z_iconst C dX7_planIsRidden_57 ?_
      exact z_retQi C hP hS hr hlocks (zNb (by omega)) (by (rcases hst with h | h) <;> first | exact ⟨Or.inl ⟨rfl, hk, h.2.2⟩, ft4⟩ | exact ⟨Or.inr ⟨rfl, fun z => h.2.1 z.2⟩, ft4⟩ | (exfalso; omega)) dX7_planIsRidden_58
    · refine z_iconst C dX7_planIsRidden_53 ?_
      refine z_goto C 58 dX7_planIsRidden_54 (by decide) ?_
      exact z_retQi C hP hS hr hlocks (zNb (by omega)) (by (rcases hst with h | h) <;> first | exact ⟨Or.inl ⟨rfl, hk, h.2.2⟩, ft4⟩ | exact ⟨Or.inr ⟨rfl, fun z => h.2.1 z.2⟩, ft4⟩ | (exfalso; omega)) dX7_planIsRidden_58
  · refine z_iconst C dX7_planIsRidden_23 ?_
    exact z_retQi C hP hS hr hlocks (zNb (by omega)) (by exact ⟨Or.inr ⟨rfl, fun h => c_20 (hp15.1.trans h.1)⟩, ft2⟩) dX7_planIsRidden_24

set_option maxRecDepth 20000 in
set_option maxHeartbeats 4000000 in
theorem c_X7_judge {l : Launch} {D : va_G} {Y : Nat → ClassId} {a : Int → Nat} (hI : zI a) (σ : zS) (wh : Int) (r1 : R3 wh) (hth : ∀ r : Int, 0 ≤ r → r ≤ 3 → σ (40 + r) 0 = 0 ∨ σ (40 + r) 0 = 1) (hn : 1 ≤ σ 32 12 ∧ σ 32 12 ≤ 24) (hg : ∀ i : Int, 0 ≤ i → i < 24 → -1 ≤ σ 35 i ∧ σ 35 i ≤ 6) (hse : (0 ≤ σ 32 7 ∧ σ 32 7 ≤ 3) ∧ (0 ≤ σ 32 8 ∧ σ 32 8 ≤ 3)) (hrd : ∀ r : Int, 0 ≤ r → r ≤ 3 → (0 ≤ σ (40 + r) 1 ∧ σ (40 + r) 1 ≤ 20) ∧ (0 ≤ σ (40 + r) 2 ∧ σ (40 + r) 2 ≤ 10) ∧ (0 ≤ σ (40 + r) 3 ∧ σ (40 + r) 3 ≤ 9) ∧ (0 ≤ σ (40 + r) 4 ∧ σ (40 + r) 4 ≤ 50)) (hho : 5 ≤ σ 32 9 ∧ σ 32 9 ≤ 20) (hpz : 0 ≤ σ 32 10 ∧ σ 32 10 ≤ 99) (hp : 0 ≤ σ 3 1 ∧ σ 3 1 ≤ 110) (hq : ∀ i : Int, 0 ≤ i → i < 110 → 0 ≤ σ 4 i ∧ σ 4 i ≤ 126) : zMet l yX7_judge cX7_judge 2 (some .int) 4 (zPc D Y a σ [.ref (a 0), .int (iI wh)]) (zQi D Y a (fun r τ => (¬ (σ (40 + σ 32 7) 0 = 1 ∧ σ (40 + σ 32 8) 0 = 1) → r = -3) ∧ (σ (40 + σ 32 7) 0 = 1 ∧ σ (40 + σ 32 8) 0 = 1 → ¬ (0 ≤ wh ∧ wh ≤ 1) → r = -2) ∧ (σ (40 + σ 32 7) 0 = 1 ∧ σ (40 + σ 32 8) 0 = 1 → 0 ≤ wh ∧ wh ≤ 1 → (¬ kPl σ → r = -5) ∧ (kPl σ → (kAll σ → r = -6) ∧ (¬ kAll σ → ∃ q : Int, 0 ≤ q ∧ q < σ 32 12 ∧ kY (kRho σ) (-1) q ≠ -6 ∧ (∀ j : Int, 0 ≤ j → j < q → kY (kRho σ) (-1) j = -6) ∧ r = if wh = 0 then q else kY (kRho σ) (-1) q))) ∧ (∀ k : Int, k < 6 ∨ 14 < k → τ k = σ k))) (inA a) := by
  refine z_start rfl (Nat.le_of_ble_eq_true rfl) hI ?_
  intro p e s m below meth c ls C hr hlocks hl hP
  have hS : va_S (inA a) s.heap s.heap [] := va_S.rf
  have hl : lv_has ls 2 [(0, .ref (a 0)), (1, .int (iI wh))] := hl
  skip
  refine z_aload_n C hl 0 rfl dX7_judge_0 ?_
  refine z_vSi C hP (As := []) lk_X7_122 (c_X7_areSeated hI σ  hth hse) ob_0 rfl rfl rfl hl.1 rfl (Nat.le_of_ble_eq_true rfl) ⟨Nat.le_of_ble_eq_true rfl, Nat.le_of_ble_eq_true rfl⟩ ⟨Nat.zero_le _, Nat.zero_le _⟩ dX7_judge_1 ?_
  by_cases b_1 : σ (40 + σ 32 7) 0 = 1 ∧ σ (40 + σ 32 8) 0 = 1
  · rw [show (if σ (40 + σ 32 7) 0 = 1 ∧ σ (40 + σ 32 8) 0 = 1 then (1 : Int) else 0) = 1 from if_pos b_1]
    refine z_ifT_ne C 10 dX7_judge_4 (by decide) ⟨by decide, by decide⟩ (by decide) ?_
    refine z_iload_n C hl 1 rfl dX7_judge_10 ?_
    refine z_iconst C dX7_judge_11 ?_
    refine z_iconst C dX7_judge_12 ?_
    refine z_sSi C hP (As := [.int (iI wh), .int (iI 0), .int (iI 1)]) lk_X7_52 (c_X7_isWithin hI σ wh 0 1 r1 ⟨by decide, by decide⟩ ⟨by decide, by decide⟩) rfl hl.1 rfl (Nat.le_of_ble_eq_true rfl) ⟨Nat.le_of_ble_eq_true rfl, Nat.le_of_ble_eq_true rfl⟩ ⟨Nat.zero_le _, Nat.zero_le _⟩ dX7_judge_13 ?_
    by_cases b_13 : 0 ≤ wh ∧ wh ≤ 1
    · rw [show (if 0 ≤ wh ∧ wh ≤ 1 then (1 : Int) else 0) = 1 from if_pos b_13]
      refine z_ifT_ne C 22 dX7_judge_16 (by decide) ⟨by decide, by decide⟩ (by decide) ?_
      refine z_aload_n C hl 0 rfl dX7_judge_22 ?_
      refine zg_X7_34 C hP dX7_judge_23 ?_
      refine z_aload_n C hl 0 rfl dX7_judge_26 ?_
      refine zg_X7_27 C hP dX7_judge_27 ?_
      refine z_aload_n C hl 0 rfl dX7_judge_30 ?_
      refine zg_X7_12 C hP dX7_judge_31 ?_
      refine zg32_X7_104 C hP dX7_judge_34 ?_
      refine z_vQi hS C hP (As := [.ref (a 3), .int (iI (σ 32 12))]) lk_X7_107 (c_X2_read hI σ (σ 32 12) hn hp hq) ob_5 rfl rfl rfl hl.1 rfl (Nat.le_of_ble_eq_true rfl) ⟨Nat.le_of_ble_eq_true rfl, Nat.le_of_ble_eq_true rfl⟩ ⟨Nat.zero_le _, Nat.zero_le _⟩ dX7_judge_37 (fun r1 t2 H locs hp37 hP hS => ?_)
      have ft2 : ∀ k : Int, k < 6 ∨ 14 < k → t2 k = σ k := fun k hk => hp37.2.1 k (by omega)
      have hmr := mRd_r (mSg σ) (σ 32 12) (σ 3 1) hn
      refine z_bipush C (by decide +kernel) dX7_judge_40 ?_
      refine z_icmp_eq C 48 dX7_judge_42 (by decide) ⟨by omega, by omega⟩ ⟨by omega, by omega⟩ (fun c_42 => ?_) (fun c_42 => ?_)
      · have hk : kPl σ := hp37.1.symm.trans c_42
        refine z_aload_n C hl 0 rfl dX7_judge_48 ?_
        refine zg_X7_41 C hP dX7_judge_49 ?_
        refine z_aload_n C hl 0 rfl dX7_judge_52 ?_
        refine zg_X7_12 C hP dX7_judge_53 ?_
        refine z_aload_n C hl 0 rfl dX7_judge_56 ?_
        refine zg_X7_34 C hP dX7_judge_57 ?_
        refine z_iconst C dX7_judge_60 ?_
        refine z_vQv hS C hP (As := [.ref (a 32), .ref (a 5), .int (iI (-1))]) lk_X7_126 (c_X3_go hI t2 (-1) (by omega) (by rw [hp37.2.1 32 (by omega)]; exact hn) (by rw [hp37.2.1 35 (by omega)]; exact hg) (by rw [hp37.2.1 32 (by omega)]; exact hse) (fun r h1 h2 => by rw [hp37.2.1 (40 + r) (by omega)]; exact hrd r h1 h2) (by rw [hp37.2.1 32 (by omega)]; exact hho) (by rw [hp37.2.1 32 (by omega)]; exact hpz) (read_pln hn hp37.2.1 (hp37.2.2 (by omega)) hk)) ob_10 rfl rfl rfl hl.1 rfl (Nat.le_of_ble_eq_true rfl) ⟨Nat.le_of_ble_eq_true rfl, Nat.le_of_ble_eq_true rfl⟩ ⟨Nat.zero_le _, Nat.zero_le _⟩ dX7_judge_61 (fun t4 H locs hp61 hP hS => ?_)
        have ft4 : ∀ k : Int, k < 6 ∨ 14 < k → t4 k = σ k := fun k hk => by rw [hp61.1 k (by omega), hp37.2.1 k (by omega)]
        have hst := kGo_or hn hse (read_like hp37.2.1 (hp37.2.2 (by omega))) hp61
        refine z_iload_n C hl 1 rfl dX7_judge_64 ?_
        refine z_if_ne C 78 dX7_judge_65 (by decide) ⟨by omega, by omega⟩ (fun c_65 => ?_) (fun c_65 => ?_)
        · refine z_aload_n C hl 0 rfl dX7_judge_78 ?_
          refine zg_X7_41 C hP dX7_judge_79 ?_
          refine zg_X7_133 C hP dX7_judge_82 ?_
          exact z_retQi C hP hS hr hlocks rfl (by refine ⟨fun h => absurd b_1 h, fun _ h => absurd b_13 h, fun _ _ => ⟨fun h => absurd hk h, fun _ => ?_⟩, ft4⟩; (rcases hst with h | h) <;> first | exact ⟨fun _ => (by omega), fun z => absurd h.2.2.1 z⟩ | exact ⟨fun z => absurd z h.2.1, fun _ => ⟨_, h.1.1, h.2.2.1, (by rw [← h.2.2.2.1]; omega), h.2.2.2.2, (by first | (rw [if_pos (by omega)]; done) | (rw [if_neg (by omega)]; exact h.2.2.2.1))⟩⟩) dX7_judge_85
        · refine z_aload_n C hl 0 rfl dX7_judge_68 ?_
          refine zg_X7_41 C hP dX7_judge_69 ?_
          refine zg_X7_130 C hP dX7_judge_72 ?_
          refine z_goto C 85 dX7_judge_75 (by decide) ?_
          exact z_retQi C hP hS hr hlocks rfl (by refine ⟨fun h => absurd b_1 h, fun _ h => absurd b_13 h, fun _ _ => ⟨fun h => absurd hk h, fun _ => ?_⟩, ft4⟩; (rcases hst with h | h) <;> first | exact ⟨fun _ => (by omega), fun z => absurd h.2.2.1 z⟩ | exact ⟨fun z => absurd z h.2.1, fun _ => ⟨_, h.1.1, h.2.2.1, (by rw [← h.2.2.2.1]; omega), h.2.2.2.2, (by first | (rw [if_pos (by omega)]; done) | (rw [if_neg (by omega)]; exact h.2.2.2.1))⟩⟩) dX7_judge_85
      · refine z_bipush C (by decide +kernel) dX7_judge_45 ?_
        exact z_retQi C hP hS hr hlocks rfl (by exact ⟨fun h => absurd b_1 h, fun _ h => absurd b_13 h, fun _ _ => ⟨fun _ => rfl, fun h => absurd (hp37.1.trans h) c_42⟩, ft2⟩) dX7_judge_47
    · rw [show (if 0 ≤ wh ∧ wh ≤ 1 then (1 : Int) else 0) = 0 from if_neg b_13]
      refine z_ifF_ne C 22 dX7_judge_16 (by decide) ⟨by decide, by decide⟩ (by decide) ?_
      refine z_bipush C (by decide +kernel) dX7_judge_19 ?_
      exact z_retQi C hP hS hr hlocks rfl (by exact ⟨fun h => absurd b_1 h, fun _ _ => rfl, fun _ h => absurd h b_13, fun _ _ => rfl⟩) dX7_judge_21
  · rw [show (if σ (40 + σ 32 7) 0 = 1 ∧ σ (40 + σ 32 8) 0 = 1 then (1 : Int) else 0) = 0 from if_neg b_1]
    refine z_ifF_ne C 10 dX7_judge_4 (by decide) ⟨by decide, by decide⟩ (by decide) ?_
    refine z_bipush C (by decide +kernel) dX7_judge_7 ?_
    exact z_retQi C hP hS hr hlocks rfl (by exact ⟨fun _ => rfl, fun h => absurd h b_1, fun h => absurd h b_1, fun _ _ => rfl⟩) dX7_judge_9
