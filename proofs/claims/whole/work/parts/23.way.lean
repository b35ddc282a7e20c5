theorem mFWg_r (g : Int → Int) (n : Int) (h : 0 ≤ n ∧ n ≤ 110) : R3 (mFWg g n 110 0) := by
  have key : ∀ (k : Nat) (i : Int), 0 ≤ i → i + k ≤ 110 → -6 ≤ mFWg g n k i ∧ mFWg g n k i ≤ 110 := by
    intro k
    induction k with
    | zero => intro i h1 h2; unfold mFWg; split <;> omega
    | succ k ih =>
      intro i h1 h2
      unfold mFWg
      have := ih (i + 1) (by omega) (by omega)
      repeat' split
      all_goals omega
  have := key 110 0 (by omega) (by omega)
  exact ⟨by omega, by omega⟩
theorem mFWg_ok {g : Int → Int} {n : Int} (h : 0 ≤ n ∧ n ≤ 110) (e : mFWg g n 110 0 = -6) : 1 ≤ n ∧ n ≤ 24 := by
  have key : ∀ (k : Nat) (i : Int), 0 ≤ i → i ≤ 24 → i + k = 110 → mFWg g n k i = -6 → n ≠ 0 ∧ n ≤ 24 := by
    intro k
    induction k with
    | zero => intro i h1 h2 h3; omega
    | succ k ih =>
      intro i h1 h2 h3 h4
      unfold mFWg at h4
      by_cases c1 : n ≤ i
      · rw [if_pos c1] at h4
        by_cases c2 : n = 0
        · rw [if_pos c2] at h4; omega
        · omega
      · rw [if_neg c1] at h4
        by_cases c2 : 24 ≤ i ∨ mSort (g i) < 0
        · rw [if_pos c2] at h4; omega
        · rw [if_neg c2] at h4
          exact ih (i + 1) (by omega) (by omega) (by omega) h4
  have := key 110 0 (by omega) (by omega) (by omega) e
  omega
def mTake (σ : zS) (n i : Int) : zS := fun k j => if k = 34 ∧ 0 ≤ j ∧ j < i then σ 4 j else if k = 35 ∧ 0 ≤ j ∧ j < i then mSort (σ 4 j) else if k = 32 ∧ j = 12 then n else σ k j
theorem mTake_s (σ : zS) (n : Int) {i : Int} (h : 0 ≤ i) : zU (zU (mTake σ n i) 34 i (σ 4 i)) 35 i (mSort (σ 4 i)) = mTake σ n (i + 1) := by
  funext k j
  unfold zU mTake
  by_cases h1 : k = 35 ∧ j = i
  · obtain ⟨rfl, rfl⟩ := h1
    rw [if_pos ⟨rfl, rfl⟩, if_neg (by omega), if_pos (by omega)]
  · rw [if_neg h1]
    by_cases h2 : k = 34 ∧ j = i
    · obtain ⟨rfl, rfl⟩ := h2
      rw [if_pos ⟨rfl, rfl⟩, if_pos (by omega)]
    · rw [if_neg h2]
      by_cases h3 : k = 34 ∧ 0 ≤ j ∧ j < i
      · rw [if_pos h3, if_pos (by omega)]
      · rw [if_neg h3, if_neg (show ¬ (k = 34 ∧ 0 ≤ j ∧ j < i + 1) by omega)]
        by_cases h4 : k = 35 ∧ 0 ≤ j ∧ j < i
        · rw [if_pos h4, if_pos (show k = 35 ∧ 0 ≤ j ∧ j < i + 1 by omega)]
        · rw [if_neg h4, if_neg (show ¬ (k = 35 ∧ 0 ≤ j ∧ j < i + 1) by omega)]
theorem mTake_0 (σ : zS) (n : Int) : zU σ 32 12 n = mTake σ n 0 := by
  funext k j
  unfold zU mTake
  rw [if_neg (by omega : ¬ (k = 34 ∧ 0 ≤ j ∧ j < 0)), if_neg (by omega : ¬ (k = 35 ∧ 0 ≤ j ∧ j < 0))]
theorem mTake_o (σ : zS) (n i : Int) {k : Int} (h : k ≠ 34 ∧ k ≠ 35 ∧ k ≠ 32) : mTake σ n i k = σ k := by
  funext j
  unfold mTake
  rw [if_neg (by omega), if_neg (by omega), if_neg (by omega)]
theorem mTake_n (σ : zS) (n i : Int) : mTake σ n i 32 12 = n := by
  unfold mTake
  rw [if_neg (by omega), if_neg (by omega), if_pos ⟨rfl, rfl⟩]

set_option maxRecDepth 20000 in
set_option maxHeartbeats 4000000 in
theorem c_X6_takeWay {l : Launch} {D : va_G} {Y : Nat → ClassId} {a : Int → Nat} (hI : zI a) (σ : zS)  (hp : 1 ≤ σ 3 1 ∧ σ 3 1 ≤ 24) (hq : ∀ i : Int, 0 ≤ i → i < 110 → 0 ≤ σ 4 i ∧ σ 4 i ≤ 126) : zMet l yX6_takeWay cX6_takeWay 3 none 1 (zPc D Y a σ [.ref (a 32), .ref (a 3)]) (zQv D Y a (fun τ => τ = mTake σ (σ 3 1) (σ 3 1))) (inA a) := by
  refine z_start rfl (Nat.le_of_ble_eq_true rfl) hI ?_
  intro p e s m below meth c ls C hr hlocks hl hP
  have hS : va_S (inA a) s.heap s.heap [] := va_S.rf
  have hl : lv_has ls 3 [(0, .ref (a 32)), (1, .ref (a 3))] := hl
  skip
  refine z_aload_n C hl 0 rfl dX6_takeWay_0 ?_
  refine z_iconst C dX6_takeWay_1 ?_
  refine z_bipush C (by decide +kernel) dX6_takeWay_2 ?_
  refine z_aload_n C hl 1 rfl dX6_takeWay_4 ?_
  refine zg_X6_87 C hP dX6_takeWay_5 ?_
  refine z_min C ⟨by omega, by omega⟩ ⟨by omega, by omega⟩ wd_293 hl.1 ⟨(Nat.le_of_ble_eq_true rfl), (Nat.le_of_ble_eq_true rfl)⟩ ⟨Nat.zero_le _, Nat.zero_le _⟩ dX6_takeWay_8 ?_
  refine z_max C ⟨by omega, by omega⟩ ⟨by omega, by omega⟩ wd_297 hl.1 ⟨(Nat.le_of_ble_eq_true rfl), (Nat.le_of_ble_eq_true rfl)⟩ ⟨Nat.zero_le _, Nat.zero_le _⟩ dX6_takeWay_11 ?_
  refine zp32_X6_52 C hP hS dX6_takeWay_14 (fun H locs hP hS => ?_)
  obtain ⟨t1, et1⟩ : ∃ z : zS, z = zU σ 32 12 (max 1 (min 24 (σ 3 1))) := ⟨_, rfl⟩
  rw [← et1] at hP
  refine z_iconst C dX6_takeWay_17 ?_
  refine z_istore_n C [1, 2, 0] [(0, .ref (a 32)), (1, .ref (a 3)), (2, .int (iI 0))] hl (by decide) rfl dX6_takeWay_18 (fun ls hl => ?_)
  have L_19 : ∀ (n : Nat) (i : Int) (τ : zS) (H : Heap) (locs : List Loc) (hP : GP D Y a τ H) (hS : va_S (inA a) s.heap H locs) (ls : Array Slot), (0 ≤ i ∧ i ≤ σ 3 1) → (τ = mTake σ (σ 3 1) i) → ((σ 3 1 - i).toNat) < n → lv_has ls 3 [(0, .ref (a 32)), (1, .ref (a 3)), (2, .int (iI i))] → W p l e (zR 1) s m ([.ref (a 32), .ref (a 3)] : List Value).toArray below meth c H locs 0 0 (MQ below (zQv D Y a (fun τ => τ = mTake σ (σ 3 1) (σ 3 1))) ([.ref (a 32), .ref (a 3)] : List Value).toArray s 0 0 (inA a)) (F0 m 19 ls []) := by
    intro n
    induction n with
    | zero =>
      intros; omega
    | succ n ih_19 =>
      intro i τ H locs hP hS ls ii iv hm hl
      have e3 : τ 3 = σ 3 := by rw [iv]; exact mTake_o _ _ _ (by decide)
      have e4 : τ 4 = σ 4 := by rw [iv]; exact mTake_o _ _ _ (by decide)
      have e12 : τ 32 12 = σ 3 1 := by rw [iv]; exact mTake_n _ _ _
      have e31 : τ 3 1 = σ 3 1 := by rw [e3]
      refine z_iload_n C hl 2 rfl dX6_takeWay_19 ?_
      refine z_aload_n C hl 0 rfl dX6_takeWay_20 ?_
      refine zg32_X6_52 C hP dX6_takeWay_21 ?_
      refine z_icmp_ge C 59 dX6_takeWay_24 (by decide) ⟨by omega, by omega⟩ ⟨by omega, by omega⟩ (fun c_24 => ?_) (fun c_24 => ?_)
      · exact z_retQv C hP hS hr hlocks (by rw [iv, show i = σ 3 1 from (by omega)]) dX6_takeWay_59
      · refine z_aload_n C hl 0 rfl dX6_takeWay_27 ?_
        refine zg32_X6_17 C hP dX6_takeWay_28 ?_
        refine z_iload_n C hl 2 rfl dX6_takeWay_31 ?_
        refine z_aload_n C hl 1 rfl dX6_takeWay_32 ?_
        refine z_iload_n C hl 2 rfl dX6_takeWay_33 ?_
        refine z_vSi C hP (As := [.int (iI i)]) lk_X6_101 (c_X1_signAt hI τ i (by omega) (by omega)) ob_3 rfl rfl rfl hl.1 rfl (Nat.le_of_ble_eq_true rfl) ⟨Nat.le_of_ble_eq_true rfl, Nat.le_of_ble_eq_true rfl⟩ ⟨Nat.zero_le _, Nat.zero_le _⟩ dX6_takeWay_34 ?_
        rw [if_pos (by omega), e4]
        refine z_iast C hP hS ia_34 ⟨by omega, by omega⟩ dX6_takeWay_37 (fun H locs hP hS => ?_)
        obtain ⟨t2, et2⟩ : ∃ z : zS, z = zU τ 34 i (σ 4 i) := ⟨_, rfl⟩
        rw [← et2] at hP
        refine z_aload_n C hl 0 rfl dX6_takeWay_38 ?_
        refine zg32_X6_21 C hP dX6_takeWay_39 ?_
        refine z_iload_n C hl 2 rfl dX6_takeWay_42 ?_
        refine z_aload_n C hl 0 rfl dX6_takeWay_43 ?_
        refine zg32_X6_17 C hP dX6_takeWay_44 ?_
        refine z_iload_n C hl 2 rfl dX6_takeWay_47 ?_
        refine z_iald C hP ia_34 ⟨by omega, by omega⟩ dX6_takeWay_48 ?_
        rw [show t2 34 i = σ 4 i from by rw [et2, zU_same]]
        have hqi := hq i (by omega) (by omega)
        refine z_sSi C hP (As := [.int (iI (σ 4 i))]) lk_X6_104 (c_X0_sortOf hI t2 (σ 4 i) (by omega)) rfl hl.1 rfl (Nat.le_of_ble_eq_true rfl) ⟨Nat.le_of_ble_eq_true rfl, Nat.le_of_ble_eq_true rfl⟩ ⟨Nat.zero_le _, Nat.zero_le _⟩ dX6_takeWay_49 ?_
        refine z_iast C hP hS ia_35 ⟨by omega, by omega⟩ dX6_takeWay_52 (fun H locs hP hS => ?_)
        obtain ⟨t3, et3⟩ : ∃ z : zS, z = zU t2 35 i (mSort (σ 4 i)) := ⟨_, rfl⟩
        rw [← et3] at hP
        refine z_iinc C 2 [1, 2, 0] [(0, .ref (a 32)), (1, .ref (a 3)), (2, .int (iI (i + 1)))] hl rfl (by decide) rfl dX6_takeWay_53 (fun ls hl => ?_)
        refine z_goto C 19 dX6_takeWay_56 (by decide) ?_
        exact ih_19 (i + 1) t3 H locs hP hS ls (by omega) (by rw [et3, et2, iv]; exact mTake_s _ _ (by omega)) (by omega) (lv_sub hl [0, 1, 2] rfl)
  exact L_19 _ 0 t1 _ _ hP hS ls (by omega) (by rw [et1, show max 1 (min 24 (σ 3 1)) = σ 3 1 from (by omega)]; exact mTake_0 _ _) (Nat.lt_succ_self _) (lv_sub hl [0, 1, 2] rfl)

set_option maxRecDepth 20000 in
set_option maxHeartbeats 4000000 in
theorem c_X7_way {l : Launch} {D : va_G} {Y : Nat → ClassId} {a : Int → Nat} (hI : zI a) (σ : zS)  (hp : 0 ≤ σ 3 1 ∧ σ 3 1 ≤ 110) (hq : ∀ i : Int, 0 ≤ i → i < 110 → 0 ≤ σ 4 i ∧ σ 4 i ≤ 126) : zMet l yX7_way cX7_way 1 (some .int) 3 (zPc D Y a σ [.ref (a 0)]) (zQi D Y a (fun r τ => if mFWg (σ 4) (σ 3 1) 110 0 ≠ -6 then r = -5 ∧ τ = σ else τ = zU (mTake σ (σ 3 1) (σ 3 1)) 3 1 0 ∧ r = σ 3 1)) (inA a) := by
  refine z_start rfl (Nat.le_of_ble_eq_true rfl) hI ?_
  intro p e s m below meth c ls C hr hlocks hl hP
  have hS : va_S (inA a) s.heap s.heap [] := va_S.rf
  have hl : lv_has ls 1 [(0, .ref (a 0))] := hl
  skip
  refine z_aload_n C hl 0 rfl dX7_way_0 ?_
  refine zg_X7_27 C hP dX7_way_1 ?_
  refine z_vSi C hP (As := []) lk_X7_101 (c_X1_faultAsWay hI σ  (by omega) (by omega)) ob_3 rfl rfl rfl hl.1 rfl (Nat.le_of_ble_eq_true rfl) ⟨Nat.le_of_ble_eq_true rfl, Nat.le_of_ble_eq_true rfl⟩ ⟨Nat.zero_le _, Nat.zero_le _⟩ dX7_way_4 ?_
  refine z_bipush C (by decide +kernel) dX7_way_7 ?_
  refine z_icmp_eq C 15 dX7_way_9 (by decide) (mFWg_r _ _ hp) ⟨by omega, by omega⟩ (fun c_9 => ?_) (fun c_9 => ?_)
  · have hfw := mFWg_ok hp c_9
    refine z_aload_n C hl 0 rfl dX7_way_15 ?_
    refine zg_X7_12 C hP dX7_way_16 ?_
    refine z_aload_n C hl 0 rfl dX7_way_19 ?_
    refine zg_X7_27 C hP dX7_way_20 ?_
    refine z_vQv hS C hP (As := [.ref (a 3)]) lk_X7_111 (c_X6_takeWay hI σ  hfw hq) (ob_set (by unfold zSet; omega)) rfl rfl rfl hl.1 rfl (Nat.le_of_ble_eq_true rfl) ⟨Nat.le_of_ble_eq_true rfl, Nat.le_of_ble_eq_true rfl⟩ ⟨Nat.zero_le _, Nat.zero_le _⟩ dX7_way_23 (fun t2 H locs hp23 hP hS => ?_)
    refine z_aload_n C hl 0 rfl dX7_way_26 ?_
    refine zg_X7_27 C hP dX7_way_27 ?_
    refine z_iconst C dX7_way_30 ?_
    refine zp_X7_94 C hP hS dX7_way_31 (fun H locs hP hS => ?_)
    obtain ⟨t3, et3⟩ : ∃ z : zS, z = zU t2 3 1 0 := ⟨_, rfl⟩
    rw [← et3] at hP
    refine z_aload_n C hl 0 rfl dX7_way_34 ?_
    refine zg_X7_12 C hP dX7_way_35 ?_
    refine zg32_X7_104 C hP dX7_way_38 ?_
    rw [show t3 32 12 = t2 32 12 from by rw [et3, zU_cell (by decide)]]
    exact z_retQi C hP hS hr hlocks rfl (by first | (rw [if_pos c_9]; exact ⟨rfl, rfl⟩) | (rw [if_neg (by omega)]; subst_vars; exact ⟨rfl, by simp [zU, mTake]⟩)) dX7_way_41
  · refine z_bipush C (by decide +kernel) dX7_way_12 ?_
    exact z_retQi C hP hS hr hlocks rfl (by first | (rw [if_pos c_9]; exact ⟨rfl, rfl⟩) | (rw [if_neg (by omega)]; subst_vars; exact ⟨rfl, by simp [zU, mTake]⟩)) dX7_way_14

set_option maxRecDepth 20000 in
set_option maxHeartbeats 4000000 in
theorem c_X2_restsIn {l : Launch} {D : va_G} {Y : Nat → ClassId} {a : Int → Nat} (hI : zI a) (σ : zS) (n0 : Int) (hn0 : 0 ≤ n0 ∧ n0 ≤ 24) (h01 : ∀ i : Int, 0 ≤ i → i < n0 → σ 6 i = 0 ∨ σ 6 i = 1) : zMet l yX2_restsIn cX2_restsIn 3 (some .boolean) 0 (zPc D Y a σ [.ref (a 5), .int (iI n0)]) (zSi (mB (∃ i : Int, 0 ≤ i ∧ i < n0 ∧ σ 6 i = 1))) zNo := by
  refine z_start rfl (Nat.le_of_ble_eq_true rfl) hI ?_
  intro p e s m below meth c ls C hr hlocks hl hP
  have hl : lv_has ls 3 [(0, .ref (a 5)), (1, .int (iI n0))] := hl
  refine z_iconst C dX2_restsIn_0 ?_
  refine z_istore_n C [1, 2, 0] [(0, .ref (a 5)), (1, .int (iI n0)), (2, .int (iI 0))] hl (by decide) rfl dX2_restsIn_1 (fun ls hl => ?_)
  have L_2 : ∀ (n : Nat) (i : Int) (ls : Array Slot), (0 ≤ i ∧ i ≤ n0) → (∀ j : Int, 0 ≤ j → j < i → σ 6 j = 0) → ((n0 - i).toNat) < n → lv_has ls 3 [(0, .ref (a 5)), (1, .int (iI n0)), (2, .int (iI i))] → W p l e (zR 0) s m ([.ref (a 5), .int (iI n0)] : List Value).toArray below meth c s.heap [] 0 0 (MQ below (zSi (mB (∃ i : Int, 0 ≤ i ∧ i < n0 ∧ σ 6 i = 1))) ([.ref (a 5), .int (iI n0)] : List Value).toArray s 0 0 zNo) (F0 m 2 ls []) := by
    intro n
    induction n with
    | zero =>
      intros; omega
    | succ n ih_2 =>
      intro i ls ii iv hm hl
      refine z_iload_n C hl 2 rfl dX2_restsIn_2 ?_
      refine z_iload_n C hl 1 rfl dX2_restsIn_3 ?_
      refine z_icmp_ge C 24 dX2_restsIn_4 (by decide) ⟨by omega, by omega⟩ ⟨by omega, by omega⟩ (fun c_4 => ?_) (fun c_4 => ?_)
      · refine z_iconst C dX2_restsIn_24 ?_
        exact z_retSi C hr hlocks (zNb (by first | omega | (split <;> omega))) (by first | (rw [mB_t]; exact ⟨i, by omega, by omega, by omega⟩) | (rw [mB_f]; rintro ⟨j, h1, h2, h3⟩; have := iv j h1 (by omega); omega)) dX2_restsIn_25
      · have h0i := h01 i (by omega) (by omega)
        refine z_aload_n C hl 0 rfl dX2_restsIn_7 ?_
        refine zg_X2_9 C hP dX2_restsIn_8 ?_
        refine z_iload_n C hl 2 rfl dX2_restsIn_11 ?_
        refine z_zald C hP za_6 ⟨by omega, by omega⟩ dX2_restsIn_12 ?_
        refine z_if_eq C 18 dX2_restsIn_13 (by decide) ⟨by omega, by omega⟩ (fun c_13 => ?_) (fun c_13 => ?_)
        · refine z_iinc C 2 [1, 2, 0] [(0, .ref (a 5)), (1, .int (iI n0)), (2, .int (iI (i + 1)))] hl rfl (by decide) rfl dX2_restsIn_18 (fun ls hl => ?_)
          refine z_goto C 2 dX2_restsIn_21 (by decide) ?_
          exact ih_2 (i + 1) ls (by omega) (by intro j h1 h2; (by_cases hj : j = i) <;> first | exact iv j h1 (by omega) | (subst hj; omega)) (by omega) (lv_sub hl [0, 1, 2] rfl)
        · refine z_iconst C dX2_restsIn_16 ?_
          exact z_retSi C hr hlocks (zNb (by first | omega | (split <;> omega))) (by first | (rw [mB_t]; exact ⟨i, by omega, by omega, by omega⟩) | (rw [mB_f]; rintro ⟨j, h1, h2, h3⟩; have := iv j h1 (by omega); omega)) dX2_restsIn_17
  exact L_2 _ 0 ls (by omega) (by intro j h1 h2; omega) (Nat.lt_succ_self _) (lv_sub hl [0, 1, 2] rfl)
