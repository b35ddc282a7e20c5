set_option maxRecDepth 20000 in
set_option maxHeartbeats 4000000 in
theorem c_X8_secondsBy {l : Launch} {D : va_G} {Y : Nat → ClassId} {a : Int → Nat} (hI : zI a) (σ : zS) (f rr ch ee b : Int) (hf : 0 ≤ f ∧ f ≤ 3) (hrr : 0 ≤ rr ∧ rr ≤ 3) (hch : 0 ≤ ch ∧ ch ≤ 200) (hee : 0 ≤ ee ∧ ee < 25) (hbb : 4 ≤ b ∧ b ≤ 10) (hrd : ∀ r : Int, 0 ≤ r → r ≤ 3 → (0 ≤ σ 101 r ∧ σ 101 r ≤ 20) ∧ (0 ≤ σ 102 r ∧ σ 102 r ≤ 10) ∧ (0 ≤ σ 103 r ∧ σ 103 r ≤ 9)) : zMet l yX8_secondsBy cX8_secondsBy 6 (some .int) 2 (zPc D Y a σ [.ref (a 100), .int (iI f), .int (iI rr), .int (iI ch), .int (iI ee), .int (iI b)]) (zSi (mSec (mHard (mSort ch)) (mTread (σ 101 f) (σ 102 f) (ee / 5) b + mTread (σ 101 rr) (σ 102 rr) (ee % 5) b))) zNo := by
  refine z_start rfl (Nat.le_of_ble_eq_true rfl) hI ?_
  intro p e s m below meth c ls C hr hlocks hl hP
  have hl : lv_has ls 6 [(0, .ref (a 100)), (1, .int (iI f)), (2, .int (iI rr)), (3, .int (iI ch)), (4, .int (iI ee)), (5, .int (iI b))] := hl
  refine z_iload_n C hl 3 rfl dX8_secondsBy_0 ?_
  refine z_sSi C hP (As := [.int (iI ch)]) lk_X8_190 (c_X8_hard hI σ ch hch) rfl hl.1 rfl (Nat.le_of_ble_eq_true rfl) ⟨Nat.le_of_ble_eq_true rfl, Nat.le_of_ble_eq_true rfl⟩ ⟨Nat.zero_le _, Nat.zero_le _⟩ dX8_secondsBy_1 ?_
  have hhb := mHard_b (mSort ch)
  refine z_aload_n C hl 0 rfl dX8_secondsBy_4 ?_
  refine z_iload_n C hl 1 rfl dX8_secondsBy_5 ?_
  refine z_iload C hl 4 rfl dX8_secondsBy_6 ?_
  refine z_iconst C dX8_secondsBy_8 ?_
  refine z_idiv C ⟨by omega, by omega, by omega, by omega⟩ dX8_secondsBy_9 ?_
  refine z_iload C hl 5 rfl dX8_secondsBy_10 ?_
  refine z_vSi C hP (As := [.int (iI f), .int (iI (ee / 5)), .int (iI b)]) lk_X8_152 (c_X8_treadOf hI σ f (ee / 5) b hf (hrd f hf.1 hf.2).1 (hrd f hf.1 hf.2).2.1 ⟨by omega, by omega⟩ ⟨by omega, by omega⟩) ob_100 rfl rfl rfl hl.1 rfl (Nat.le_of_ble_eq_true rfl) ⟨Nat.le_of_ble_eq_true rfl, Nat.le_of_ble_eq_true rfl⟩ ⟨Nat.zero_le _, Nat.zero_le _⟩ dX8_secondsBy_12 ?_
  have tb1 := mTread_b (hrd f hf.1 hf.2).1 (hrd f hf.1 hf.2).2.1 (e := ee / 5) (b := b) (by omega) (by omega)
  refine z_aload_n C hl 0 rfl dX8_secondsBy_15 ?_
  refine z_iload_n C hl 2 rfl dX8_secondsBy_16 ?_
  refine z_iload C hl 4 rfl dX8_secondsBy_17 ?_
  refine z_iconst C dX8_secondsBy_19 ?_
  refine z_irem C ⟨by omega, by omega, by omega, by omega⟩ dX8_secondsBy_20 ?_
  refine z_iload C hl 5 rfl dX8_secondsBy_21 ?_
  refine z_vSi C hP (As := [.int (iI rr), .int (iI (ee % 5)), .int (iI b)]) lk_X8_152 (c_X8_treadOf hI σ rr (ee % 5) b hrr (hrd rr hrr.1 hrr.2).1 (hrd rr hrr.1 hrr.2).2.1 ⟨by omega, by omega⟩ ⟨by omega, by omega⟩) ob_100 rfl rfl rfl hl.1 rfl (Nat.le_of_ble_eq_true rfl) ⟨Nat.le_of_ble_eq_true rfl, Nat.le_of_ble_eq_true rfl⟩ ⟨Nat.zero_le _, Nat.zero_le _⟩ dX8_secondsBy_23 ?_
  have tb2 := mTread_b (hrd rr hrr.1 hrr.2).1 (hrd rr hrr.1 hrr.2).2.1 (e := ee % 5) (b := b) (by omega) (by omega)
  refine z_iadd C dX8_secondsBy_26 ?_
  refine z_sSi C hP (As := [.int (iI (mHard (mSort ch))), .int (iI ((mTread (σ 101 f) (σ 102 f) (ee / 5) b) + (mTread (σ 101 rr) (σ 102 rr) (ee % 5) b)))]) lk_X8_193 (c_X8_seconds hI σ (mHard (mSort ch)) ((mTread (σ 101 f) (σ 102 f) (ee / 5) b) + (mTread (σ 101 rr) (σ 102 rr) (ee % 5) b)) (by omega) (by omega)) rfl hl.1 rfl (Nat.le_of_ble_eq_true rfl) ⟨Nat.le_of_ble_eq_true rfl, Nat.le_of_ble_eq_true rfl⟩ ⟨Nat.zero_le _, Nat.zero_le _⟩ dX8_secondsBy_27 ?_
  exact z_retSi C hr hlocks rfl (by subst_vars; rfl) dX8_secondsBy_30
