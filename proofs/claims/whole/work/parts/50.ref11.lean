set_option maxRecDepth 20000 in
set_option maxHeartbeats 4000000 in
theorem c_X8_lost {l : Launch} {D : va_G} {Y : Nat → ClassId} {a : Int → Nat} (hI : zI a) (σ : zS) (rr ee b : Int) (hrr : 0 ≤ rr ∧ rr ≤ 3) (hee : 0 ≤ ee ∧ ee ≤ 4) (hbb : 4 ≤ b ∧ b ≤ 10) (hlk : 4 ≤ σ 102 rr ∧ σ 102 rr ≤ 10) (hrd : ∀ r : Int, 0 ≤ r → r ≤ 3 → (0 ≤ σ 101 r ∧ σ 101 r ≤ 20) ∧ (0 ≤ σ 102 r ∧ σ 102 r ≤ 10) ∧ (0 ≤ σ 103 r ∧ σ 103 r ≤ 9)) (hnm : 1 ≤ σ 100 11 ∧ σ 100 11 ≤ 24) : zMet l yX8_lost cX8_lost 4 (some .int) 2 (zPc D Y a σ [.ref (a 100), .int (iI rr), .int (iI ee), .int (iI b)]) (zSi (σ 100 11 * (mTread (σ 101 rr) (σ 102 rr) ee (σ 102 rr) - mTread (σ 101 rr) (σ 102 rr) ee b))) zNo := by
  refine z_start rfl (Nat.le_of_ble_eq_true rfl) hI ?_
  intro p e s m below meth c ls C hr hlocks hl hP
  have hl : lv_has ls 4 [(0, .ref (a 100)), (1, .int (iI rr)), (2, .int (iI ee)), (3, .int (iI b))] := hl
  have tb1 := mTread_b (hrd rr hrr.1 hrr.2).1 (hrd rr hrr.1 hrr.2).2.1 hee hlk
  have tb2 := mTread_b (hrd rr hrr.1 hrr.2).1 (hrd rr hrr.1 hrr.2).2.1 hee hbb
  have q1 := mulb (x := σ 100 11) (y := mTread (σ 101 rr) (σ 102 rr) ee (σ 102 rr)) (A := 24) (B := 80) (by omega) tb1
  have q2 := mulb (x := σ 100 11) (y := mTread (σ 101 rr) (σ 102 rr) ee b) (A := 24) (B := 80) (by omega) tb2
  have q3 := Int.mul_sub (σ 100 11) (mTread (σ 101 rr) (σ 102 rr) ee (σ 102 rr)) (mTread (σ 101 rr) (σ 102 rr) ee b)
  refine z_aload_n C hl 0 rfl dX8_lost_0 ?_
  refine zg_X8_81 C hP dX8_lost_1 ?_
  refine z_aload_n C hl 0 rfl dX8_lost_4 ?_
  refine z_iload_n C hl 1 rfl dX8_lost_5 ?_
  refine z_iload_n C hl 2 rfl dX8_lost_6 ?_
  refine z_aload_n C hl 0 rfl dX8_lost_7 ?_
  refine zg_X8_13 C hP dX8_lost_8 ?_
  refine z_iload_n C hl 1 rfl dX8_lost_11 ?_
  refine z_iald C hP ia_102 ⟨by omega, by omega⟩ dX8_lost_12 ?_
  refine z_vSi C hP (As := [.int (iI rr), .int (iI ee), .int (iI (σ 102 rr))]) lk_X8_152 (c_X8_treadOf hI σ rr ee (σ 102 rr) hrr (hrd rr hrr.1 hrr.2).1 (hrd rr hrr.1 hrr.2).2.1 ⟨by omega, by omega⟩ ⟨by omega, by omega⟩) ob_100 rfl rfl rfl hl.1 rfl (Nat.le_of_ble_eq_true rfl) ⟨Nat.le_of_ble_eq_true rfl, Nat.le_of_ble_eq_true rfl⟩ ⟨Nat.zero_le _, Nat.zero_le _⟩ dX8_lost_13 ?_
  refine z_aload_n C hl 0 rfl dX8_lost_16 ?_
  refine z_iload_n C hl 1 rfl dX8_lost_17 ?_
  refine z_iload_n C hl 2 rfl dX8_lost_18 ?_
  refine z_iload_n C hl 3 rfl dX8_lost_19 ?_
  refine z_vSi C hP (As := [.int (iI rr), .int (iI ee), .int (iI b)]) lk_X8_152 (c_X8_treadOf hI σ rr ee b hrr (hrd rr hrr.1 hrr.2).1 (hrd rr hrr.1 hrr.2).2.1 ⟨by omega, by omega⟩ ⟨by omega, by omega⟩) ob_100 rfl rfl rfl hl.1 rfl (Nat.le_of_ble_eq_true rfl) ⟨Nat.le_of_ble_eq_true rfl, Nat.le_of_ble_eq_true rfl⟩ ⟨Nat.zero_le _, Nat.zero_le _⟩ dX8_lost_20 ?_
  refine z_isub C dX8_lost_23 ?_
  refine z_imul C dX8_lost_24 ?_
  exact z_retSi C hr hlocks rfl (by subst_vars; rfl) dX8_lost_25
