set_option maxRecDepth 20000 in
set_option maxHeartbeats 4000000 in
theorem c_X8_alone {l : Launch} {D : va_G} {Y : Nat → ClassId} {a : Int → Nat} (hI : zI a) (σ : zS) (rr ee ch : Int) (hrr : 0 ≤ rr ∧ rr ≤ 3) (hch : 0 ≤ ch ∧ ch ≤ 200) (hee : 0 ≤ ee ∧ ee ≤ 4) (hlk : 4 ≤ σ 102 rr ∧ σ 102 rr ≤ 10) (hrd : ∀ r : Int, 0 ≤ r → r ≤ 3 → (0 ≤ σ 101 r ∧ σ 101 r ≤ 20) ∧ (0 ≤ σ 102 r ∧ σ 102 r ≤ 10) ∧ (0 ≤ σ 103 r ∧ σ 103 r ≤ 9)) : zMet l yX8_alone cX8_alone 4 (some .int) 2 (zPc D Y a σ [.ref (a 100), .int (iI rr), .int (iI ee), .int (iI ch)]) (zSi (mSec (mHard (mSort ch) / 2) (mTread (σ 101 rr) (σ 102 rr) ee (σ 102 rr)))) zNo := by
  refine z_start rfl (Nat.le_of_ble_eq_true rfl) hI ?_
  intro p e s m below meth c ls C hr hlocks hl hP
  have hl : lv_has ls 4 [(0, .ref (a 100)), (1, .int (iI rr)), (2, .int (iI ee)), (3, .int (iI ch))] := hl
  refine z_iload_n C hl 3 rfl dX8_alone_0 ?_
  refine z_sSi C hP (As := [.int (iI ch)]) lk_X8_190 (c_X8_hard hI σ ch hch) rfl hl.1 rfl (Nat.le_of_ble_eq_true rfl) ⟨Nat.le_of_ble_eq_true rfl, Nat.le_of_ble_eq_true rfl⟩ ⟨Nat.zero_le _, Nat.zero_le _⟩ dX8_alone_1 ?_
  have hhb := mHard_b (mSort ch)
  refine z_iconst C dX8_alone_4 ?_
  refine z_idiv C ⟨by omega, by omega, by omega, by omega⟩ dX8_alone_5 ?_
  refine z_aload_n C hl 0 rfl dX8_alone_6 ?_
  refine z_iload_n C hl 1 rfl dX8_alone_7 ?_
  refine z_iload_n C hl 2 rfl dX8_alone_8 ?_
  refine z_aload_n C hl 0 rfl dX8_alone_9 ?_
  refine zg_X8_13 C hP dX8_alone_10 ?_
  refine z_iload_n C hl 1 rfl dX8_alone_13 ?_
  refine z_iald C hP ia_102 ⟨by omega, by omega⟩ dX8_alone_14 ?_
  refine z_vSi C hP (As := [.int (iI rr), .int (iI ee), .int (iI (σ 102 rr))]) lk_X8_152 (c_X8_treadOf hI σ rr ee (σ 102 rr) hrr (hrd rr hrr.1 hrr.2).1 (hrd rr hrr.1 hrr.2).2.1 ⟨by omega, by omega⟩ ⟨by omega, by omega⟩) ob_100 rfl rfl rfl hl.1 rfl (Nat.le_of_ble_eq_true rfl) ⟨Nat.le_of_ble_eq_true rfl, Nat.le_of_ble_eq_true rfl⟩ ⟨Nat.zero_le _, Nat.zero_le _⟩ dX8_alone_15 ?_
  have tb1 := mTread_b (hrd rr hrr.1 hrr.2).1 (hrd rr hrr.1 hrr.2).2.1 (e := ee) (b := σ 102 rr) (by omega) (by omega)
  refine z_sSi C hP (As := [.int (iI ((mHard (mSort ch)) / 2)), .int (iI (mTread (σ 101 rr) (σ 102 rr) ee (σ 102 rr)))]) lk_X8_193 (c_X8_seconds hI σ ((mHard (mSort ch)) / 2) (mTread (σ 101 rr) (σ 102 rr) ee (σ 102 rr)) (by omega) (by omega)) rfl hl.1 rfl (Nat.le_of_ble_eq_true rfl) ⟨Nat.le_of_ble_eq_true rfl, Nat.le_of_ble_eq_true rfl⟩ ⟨Nat.zero_le _, Nat.zero_le _⟩ dX8_alone_18 ?_
  exact z_retSi C hr hlocks rfl (by subst_vars; rfl) dX8_alone_21
