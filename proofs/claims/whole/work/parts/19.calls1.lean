def mBits (σ : zS) : Int := σ 40 0 + 2 * σ 41 0 + 4 * σ 42 0 + 8 * σ 43 0
def mCome (σ : zS) (k str lik w th : Int) : zS := zU (zU (zU (zU (zU σ k 0 1) k 1 str) k 2 lik) k 3 w) k 4 th
theorem th4_of {σ : zS} (h : ∀ r : Int, 0 ≤ r → r ≤ 3 → σ (40 + r) 0 = 0 ∨ σ (40 + r) 0 = 1) : (σ 40 0 = 0 ∨ σ 40 0 = 1) ∧ (σ 41 0 = 0 ∨ σ 41 0 = 1) ∧ (σ 42 0 = 0 ∨ σ 42 0 = 1) ∧ (σ 43 0 = 0 ∨ σ 43 0 = 1) := ⟨h 0 (by omega) (by omega), h 1 (by omega) (by omega), h 2 (by omega) (by omega), h 3 (by omega) (by omega)⟩
theorem th_up {σ : zS} (h : ∀ r : Int, 0 ≤ r → r ≤ 3 → σ (40 + r) 0 = 0 ∨ σ (40 + r) 0 = 1) {k x : Int} (hx : x = 0 ∨ x = 1) : ∀ r : Int, 0 ≤ r → r ≤ 3 → zU σ k 0 x (40 + r) 0 = 0 ∨ zU σ k 0 x (40 + r) 0 = 1 := fun r h1 h2 => by
  unfold zU
  split
  · exact hx
  · exact h r h1 h2
theorem th_come {σ : zS} (h : ∀ r : Int, 0 ≤ r → r ≤ 3 → σ (40 + r) 0 = 0 ∨ σ (40 + r) 0 = 1) {k str lik w th : Int} : ∀ r : Int, 0 ≤ r → r ≤ 3 → mCome σ k str lik w th (40 + r) 0 = 0 ∨ mCome σ k str lik w th (40 + r) 0 = 1 := fun r h1 h2 => by
  have e : mCome σ k str lik w th (40 + r) 0 = zU σ k 0 1 (40 + r) 0 := by simp [mCome, zU]
  rw [e]
  exact th_up h (Or.inr rfl) r h1 h2

set_option maxRecDepth 20000 in
set_option maxHeartbeats 4000000 in
theorem c_X4_come {l : Launch} {D : va_G} {Y : Nat → ClassId} {a : Int → Nat} (hI : zI a) (σ : zS) (k str lik w th : Int) (hk : zRid k) : zMet l yX4_come cX4_come 5 none 0 (zPc D Y a σ [.ref (a k), .int (iI str), .int (iI lik), .int (iI w), .int (iI th)]) (zQv D Y a (fun τ => τ = mCome σ k str lik w th)) (inA a) := by
  refine z_start rfl (Nat.le_of_ble_eq_true rfl) hI ?_
  intro p e s m below meth c ls C hr hlocks hl hP
  have hS : va_S (inA a) s.heap s.heap [] := va_S.rf
  have hl : lv_has ls 5 [(0, .ref (a k)), (1, .int (iI str)), (2, .int (iI lik)), (3, .int (iI w)), (4, .int (iI th))] := hl
  skip
  refine z_aload_n C hl 0 rfl dX4_come_0 ?_
  refine z_iconst C dX4_come_1 ?_
  refine zp_X4_7 C hP hS hk (by omega) dX4_come_2 (fun H locs hP hS => ?_)
  obtain ⟨t1, et1⟩ : ∃ z : zS, z = zU σ k 0 1 := ⟨_, rfl⟩
  rw [← et1] at hP
  refine z_aload_n C hl 0 rfl dX4_come_5 ?_
  refine z_iload_n C hl 1 rfl dX4_come_6 ?_
  refine zp_X4_13 C hP hS hk dX4_come_7 (fun H locs hP hS => ?_)
  obtain ⟨t2, et2⟩ : ∃ z : zS, z = zU t1 k 1 str := ⟨_, rfl⟩
  rw [← et2] at hP
  refine z_aload_n C hl 0 rfl dX4_come_10 ?_
  refine z_iload_n C hl 2 rfl dX4_come_11 ?_
  refine zp_X4_17 C hP hS hk dX4_come_12 (fun H locs hP hS => ?_)
  obtain ⟨t3, et3⟩ : ∃ z : zS, z = zU t2 k 2 lik := ⟨_, rfl⟩
  rw [← et3] at hP
  refine z_aload_n C hl 0 rfl dX4_come_15 ?_
  refine z_iload_n C hl 3 rfl dX4_come_16 ?_
  refine zp_X4_20 C hP hS hk dX4_come_17 (fun H locs hP hS => ?_)
  obtain ⟨t4, et4⟩ : ∃ z : zS, z = zU t3 k 3 w := ⟨_, rfl⟩
  rw [← et4] at hP
  refine z_aload_n C hl 0 rfl dX4_come_20 ?_
  refine z_iload C hl 4 rfl dX4_come_21 ?_
  refine zp_X4_23 C hP hS hk dX4_come_23 (fun H locs hP hS => ?_)
  obtain ⟨t5, et5⟩ : ∃ z : zS, z = zU t4 k 4 th := ⟨_, rfl⟩
  rw [← et5] at hP
  exact z_retQv C hP hS hr hlocks (by subst_vars; rfl) dX4_come_26

set_option maxRecDepth 20000 in
set_option maxHeartbeats 4000000 in
theorem c_X7_rider {l : Launch} {D : va_G} {Y : Nat → ClassId} {a : Int → Nat} (hI : zI a) (σ : zS) (rr str lik w th : Int) (hr1 : R3 rr) (hr2 : R3 str) (hr3 : R3 lik) (hr4 : R3 w) (hr5 : R3 th) (hth : ∀ r : Int, 0 ≤ r → r ≤ 3 → σ (40 + r) 0 = 0 ∨ σ (40 + r) 0 = 1) : zMet l yX7_rider cX7_rider 6 (some .int) 2 (zPc D Y a σ [.ref (a 0), .int (iI rr), .int (iI str), .int (iI lik), .int (iI w), .int (iI th)]) (zQi D Y a (fun r τ => if ¬ (0 ≤ rr ∧ rr ≤ 3) then r = -1 ∧ τ = σ else if ¬ (1 ≤ str ∧ str ≤ 20 ∧ 4 ≤ lik ∧ lik ≤ 10 ∧ 1 ≤ w ∧ w ≤ 9 ∧ 0 ≤ th ∧ th ≤ 50) then r = -2 ∧ τ = σ else τ = mCome σ (40 + rr) str lik w th ∧ r = mPop (mBits τ))) (inA a) := by
  refine z_start rfl (Nat.le_of_ble_eq_true rfl) hI ?_
  intro p e s m below meth c ls C hr hlocks hl hP
  have hS : va_S (inA a) s.heap s.heap [] := va_S.rf
  have hl : lv_has ls 6 [(0, .ref (a 0)), (1, .int (iI rr)), (2, .int (iI str)), (3, .int (iI lik)), (4, .int (iI w)), (5, .int (iI th))] := hl
  skip
  refine z_iload_n C hl 1 rfl dX7_rider_0 ?_
  refine z_iconst C dX7_rider_1 ?_
  refine z_iconst C dX7_rider_2 ?_
  refine z_sSi C hP (As := [.int (iI rr), .int (iI 0), .int (iI 3)]) lk_X7_52 (c_X7_isWithin hI σ rr 0 3 (by omega) (by omega) (by omega)) rfl hl.1 rfl (Nat.le_of_ble_eq_true rfl) ⟨Nat.le_of_ble_eq_true rfl, Nat.le_of_ble_eq_true rfl⟩ ⟨Nat.zero_le _, Nat.zero_le _⟩ dX7_rider_3 ?_
  by_cases b_3 : 0 ≤ rr ∧ rr ≤ 3
  · rw [show (if 0 ≤ rr ∧ rr ≤ 3 then (1 : Int) else 0) = 1 from if_pos b_3]
    refine z_ifT_ne C 11 dX7_rider_6 (by decide) ⟨by decide, by decide⟩ (by decide) ?_
    refine z_iload_n C hl 2 rfl dX7_rider_11 ?_
    refine z_iconst C dX7_rider_12 ?_
    refine z_bipush C (by decide +kernel) dX7_rider_13 ?_
    refine z_sSi C hP (As := [.int (iI str), .int (iI 1), .int (iI 20)]) lk_X7_52 (c_X7_isWithin hI σ str 1 20 (by omega) (by omega) (by omega)) rfl hl.1 rfl (Nat.le_of_ble_eq_true rfl) ⟨Nat.le_of_ble_eq_true rfl, Nat.le_of_ble_eq_true rfl⟩ ⟨Nat.zero_le _, Nat.zero_le _⟩ dX7_rider_15 ?_
    by_cases b_15 : 1 ≤ str ∧ str ≤ 20
    · rw [show (if 1 ≤ str ∧ str ≤ 20 then (1 : Int) else 0) = 1 from if_pos b_15]
      refine z_ifF_eq C 31 dX7_rider_18 (by decide) ⟨by decide, by decide⟩ (by decide) ?_
      refine z_iload_n C hl 3 rfl dX7_rider_21 ?_
      refine z_iconst C dX7_rider_22 ?_
      refine z_bipush C (by decide +kernel) dX7_rider_23 ?_
      refine z_sSi C hP (As := [.int (iI lik), .int (iI 4), .int (iI 10)]) lk_X7_52 (c_X7_isWithin hI σ lik 4 10 (by omega) (by omega) (by omega)) rfl hl.1 rfl (Nat.le_of_ble_eq_true rfl) ⟨Nat.le_of_ble_eq_true rfl, Nat.le_of_ble_eq_true rfl⟩ ⟨Nat.zero_le _, Nat.zero_le _⟩ dX7_rider_25 ?_
      by_cases b_25 : 4 ≤ lik ∧ lik ≤ 10
      · rw [show (if 4 ≤ lik ∧ lik ≤ 10 then (1 : Int) else 0) = 1 from if_pos b_25]
        refine z_ifT_ne C 34 dX7_rider_28 (by decide) ⟨by decide, by decide⟩ (by decide) ?_
        refine z_iload C hl 4 rfl dX7_rider_34 ?_
        refine z_iconst C dX7_rider_36 ?_
        refine z_bipush C (by decide +kernel) dX7_rider_37 ?_
        refine z_sSi C hP (As := [.int (iI w), .int (iI 1), .int (iI 9)]) lk_X7_52 (c_X7_isWithin hI σ w 1 9 (by omega) (by omega) (by omega)) rfl hl.1 rfl (Nat.le_of_ble_eq_true rfl) ⟨Nat.le_of_ble_eq_true rfl, Nat.le_of_ble_eq_true rfl⟩ ⟨Nat.zero_le _, Nat.zero_le _⟩ dX7_rider_39 ?_
        by_cases b_39 : 1 ≤ w ∧ w ≤ 9
        · rw [show (if 1 ≤ w ∧ w ≤ 9 then (1 : Int) else 0) = 1 from if_pos b_39]
          refine z_ifF_eq C 56 dX7_rider_42 (by decide) ⟨by decide, by decide⟩ (by decide) ?_
          refine z_iload C hl 5 rfl dX7_rider_45 ?_
          refine z_iconst C dX7_rider_47 ?_
          refine z_bipush C (by decide +kernel) dX7_rider_48 ?_
          refine z_sSi C hP (As := [.int (iI th), .int (iI 0), .int (iI 50)]) lk_X7_52 (c_X7_isWithin hI σ th 0 50 (by omega) (by omega) (by omega)) rfl hl.1 rfl (Nat.le_of_ble_eq_true rfl) ⟨Nat.le_of_ble_eq_true rfl, Nat.le_of_ble_eq_true rfl⟩ ⟨Nat.zero_le _, Nat.zero_le _⟩ dX7_rider_50 ?_
          by_cases b_50 : 0 ≤ th ∧ th ≤ 50
          · rw [show (if 0 ≤ th ∧ th ≤ 50 then (1 : Int) else 0) = 1 from if_pos b_50]
            refine z_ifT_ne C 59 dX7_rider_53 (by decide) ⟨by decide, by decide⟩ (by decide) ?_
            refine z_aload_n C hl 0 rfl dX7_rider_59 ?_
            refine zg_X7_12 C hP dX7_rider_60 ?_
            refine zg32_X7_56 C hP dX7_rider_63 ?_
            refine z_iload_n C hl 1 rfl dX7_rider_66 ?_
            refine z_aldR32 C hP ⟨by omega, by omega⟩ dX7_rider_67 ?_
            refine z_iload_n C hl 2 rfl dX7_rider_68 ?_
            refine z_iload_n C hl 3 rfl dX7_rider_69 ?_
            refine z_iload C hl 4 rfl dX7_rider_70 ?_
            refine z_iload C hl 5 rfl dX7_rider_72 ?_
            refine z_vQv hS C hP (As := [.int (iI str), .int (iI lik), .int (iI w), .int (iI th)]) lk_X7_60 (c_X4_come hI σ (40 + rr) str lik w th (by unfold zRid; omega)) (ob_rid (by unfold zRid; omega)) rfl rfl rfl hl.1 rfl (Nat.le_of_ble_eq_true rfl) ⟨Nat.le_of_ble_eq_true rfl, Nat.le_of_ble_eq_true rfl⟩ ⟨Nat.zero_le _, Nat.zero_le _⟩ dX7_rider_74 (fun t2 H locs hp74 hP hS => ?_)
            refine z_aload_n C hl 0 rfl dX7_rider_77 ?_
            refine zg_X7_12 C hP dX7_rider_78 ?_
            refine z_vSi C hP (As := []) lk_X7_66 (c_X6_ridersThere hI t2  (th4_of (by rw [hp74]; exact th_come hth))) (ob_set (by unfold zSet; omega)) rfl rfl rfl hl.1 rfl (Nat.le_of_ble_eq_true rfl) ⟨Nat.le_of_ble_eq_true rfl, Nat.le_of_ble_eq_true rfl⟩ ⟨Nat.zero_le _, Nat.zero_le _⟩ dX7_rider_81 ?_
            exact z_retQi C hP hS hr hlocks rfl (by (repeat' split) <;> first | (exfalso; omega) | exact ⟨rfl, rfl⟩ | exact ⟨by assumption, rfl⟩) dX7_rider_84
          · rw [show (if 0 ≤ th ∧ th ≤ 50 then (1 : Int) else 0) = 0 from if_neg b_50]
            refine z_ifF_ne C 59 dX7_rider_53 (by decide) ⟨by decide, by decide⟩ (by decide) ?_
            refine z_bipush C (by decide +kernel) dX7_rider_56 ?_
            exact z_retQi C hP hS hr hlocks rfl (by (repeat' split) <;> first | (exfalso; omega) | exact ⟨rfl, rfl⟩ | exact ⟨by assumption, rfl⟩) dX7_rider_58
        · rw [show (if 1 ≤ w ∧ w ≤ 9 then (1 : Int) else 0) = 0 from if_neg b_39]
          refine z_ifT_eq C 56 dX7_rider_42 (by decide) ⟨by decide, by decide⟩ (by decide) ?_
          refine z_bipush C (by decide +kernel) dX7_rider_56 ?_
          exact z_retQi C hP hS hr hlocks rfl (by (repeat' split) <;> first | (exfalso; omega) | exact ⟨rfl, rfl⟩ | exact ⟨by assumption, rfl⟩) dX7_rider_58
      · rw [show (if 4 ≤ lik ∧ lik ≤ 10 then (1 : Int) else 0) = 0 from if_neg b_25]
        refine z_ifF_ne C 34 dX7_rider_28 (by decide) ⟨by decide, by decide⟩ (by decide) ?_
        refine z_bipush C (by decide +kernel) dX7_rider_31 ?_
        exact z_retQi C hP hS hr hlocks rfl (by (repeat' split) <;> first | (exfalso; omega) | exact ⟨rfl, rfl⟩ | exact ⟨by assumption, rfl⟩) dX7_rider_33
    · rw [show (if 1 ≤ str ∧ str ≤ 20 then (1 : Int) else 0) = 0 from if_neg b_15]
      refine z_ifT_eq C 31 dX7_rider_18 (by decide) ⟨by decide, by decide⟩ (by decide) ?_
      refine z_bipush C (by decide +kernel) dX7_rider_31 ?_
      exact z_retQi C hP hS hr hlocks rfl (by (repeat' split) <;> first | (exfalso; omega) | exact ⟨rfl, rfl⟩ | exact ⟨by assumption, rfl⟩) dX7_rider_33
  · rw [show (if 0 ≤ rr ∧ rr ≤ 3 then (1 : Int) else 0) = 0 from if_neg b_3]
    refine z_ifF_ne C 11 dX7_rider_6 (by decide) ⟨by decide, by decide⟩ (by decide) ?_
    refine z_iconst C dX7_rider_9 ?_
    exact z_retQi C hP hS hr hlocks rfl (by (repeat' split) <;> first | (exfalso; omega) | exact ⟨rfl, rfl⟩ | exact ⟨by assumption, rfl⟩) dX7_rider_10

set_option maxRecDepth 20000 in
set_option maxHeartbeats 4000000 in
theorem c_X7_leave {l : Launch} {D : va_G} {Y : Nat → ClassId} {a : Int → Nat} (hI : zI a) (σ : zS) (rr : Int) (hr1 : R3 rr) (hth : ∀ r : Int, 0 ≤ r → r ≤ 3 → σ (40 + r) 0 = 0 ∨ σ (40 + r) 0 = 1) : zMet l yX7_leave cX7_leave 2 (some .int) 2 (zPc D Y a σ [.ref (a 0), .int (iI rr)]) (zQi D Y a (fun r τ => if ¬ (0 ≤ rr ∧ rr ≤ 3 ∧ σ (40 + rr) 0 = 1) then r = -1 ∧ τ = σ else τ = zU σ (40 + rr) 0 0 ∧ r = mPop (mBits τ))) (inA a) := by
  refine z_start rfl (Nat.le_of_ble_eq_true rfl) hI ?_
  intro p e s m below meth c ls C hr hlocks hl hP
  have hS : va_S (inA a) s.heap s.heap [] := va_S.rf
  have hl : lv_has ls 2 [(0, .ref (a 0)), (1, .int (iI rr))] := hl
  skip
  refine z_aload_n C hl 0 rfl dX7_leave_0 ?_
  refine zg_X7_12 C hP dX7_leave_1 ?_
  refine z_iload_n C hl 1 rfl dX7_leave_4 ?_
  refine z_vSi C hP (As := [.int (iI rr)]) lk_X7_70 (c_X6_isThere hI σ rr hr1 hth) (ob_set (by unfold zSet; omega)) rfl rfl rfl hl.1 rfl (Nat.le_of_ble_eq_true rfl) ⟨Nat.le_of_ble_eq_true rfl, Nat.le_of_ble_eq_true rfl⟩ ⟨Nat.zero_le _, Nat.zero_le _⟩ dX7_leave_5 ?_
  by_cases b_5 : 0 ≤ rr ∧ rr ≤ 3 ∧ σ (40 + rr) 0 = 1
  · rw [show (if 0 ≤ rr ∧ rr ≤ 3 ∧ σ (40 + rr) 0 = 1 then (1 : Int) else 0) = 1 from if_pos b_5]
    refine z_ifT_ne C 13 dX7_leave_8 (by decide) ⟨by decide, by decide⟩ (by decide) ?_
    refine z_aload_n C hl 0 rfl dX7_leave_13 ?_
    refine zg_X7_12 C hP dX7_leave_14 ?_
    refine zg32_X7_56 C hP dX7_leave_17 ?_
    refine z_iload_n C hl 1 rfl dX7_leave_20 ?_
    refine z_aldR32 C hP ⟨by omega, by omega⟩ dX7_leave_21 ?_
    refine z_iconst C dX7_leave_22 ?_
    refine zp_X7_74 C hP hS (by unfold zRid; omega) (by omega) dX7_leave_23 (fun H locs hP hS => ?_)
    obtain ⟨t1, et1⟩ : ∃ z : zS, z = zU σ (40 + rr) 0 0 := ⟨_, rfl⟩
    rw [← et1] at hP
    refine z_aload_n C hl 0 rfl dX7_leave_26 ?_
    refine zg_X7_12 C hP dX7_leave_27 ?_
    refine z_vSi C hP (As := []) lk_X7_66 (c_X6_ridersThere hI t1  (th4_of (by rw [et1]; exact th_up hth (Or.inl rfl)))) (ob_set (by unfold zSet; omega)) rfl rfl rfl hl.1 rfl (Nat.le_of_ble_eq_true rfl) ⟨Nat.le_of_ble_eq_true rfl, Nat.le_of_ble_eq_true rfl⟩ ⟨Nat.zero_le _, Nat.zero_le _⟩ dX7_leave_30 ?_
    exact z_retQi C hP hS hr hlocks rfl (by (repeat' split) <;> first | (exfalso; omega) | exact ⟨rfl, rfl⟩ | exact ⟨by assumption, rfl⟩) dX7_leave_33
  · rw [show (if 0 ≤ rr ∧ rr ≤ 3 ∧ σ (40 + rr) 0 = 1 then (1 : Int) else 0) = 0 from if_neg b_5]
    refine z_ifF_ne C 13 dX7_leave_8 (by decide) ⟨by decide, by decide⟩ (by decide) ?_
    refine z_iconst C dX7_leave_11 ?_
    exact z_retQi C hP hS hr hlocks rfl (by (repeat' split) <;> first | (exfalso; omega) | exact ⟨rfl, rfl⟩ | exact ⟨by assumption, rfl⟩) dX7_leave_12

set_option maxRecDepth 20000 in
set_option maxHeartbeats 4000000 in
theorem c_X7_seat {l : Launch} {D : va_G} {Y : Nat → ClassId} {a : Int → Nat} (hI : zI a) (σ : zS) (f b : Int) (hr1 : R3 f) (hr2 : R3 b) (hth : ∀ r : Int, 0 ≤ r → r ≤ 3 → σ (40 + r) 0 = 0 ∨ σ (40 + r) 0 = 1) : zMet l yX7_seat cX7_seat 3 (some .int) 2 (zPc D Y a σ [.ref (a 0), .int (iI f), .int (iI b)]) (zQi D Y a (fun r τ => if ¬ ((0 ≤ f ∧ f ≤ 3 ∧ σ (40 + f) 0 = 1) ∧ (0 ≤ b ∧ b ≤ 3 ∧ σ (40 + b) 0 = 1) ∧ f ≠ b) then r = -1 ∧ τ = σ else τ = zU (zU σ 32 7 f) 32 8 b ∧ r = 1)) (inA a) := by
  refine z_start rfl (Nat.le_of_ble_eq_true rfl) hI ?_
  intro p e s m below meth c ls C hr hlocks hl hP
  have hS : va_S (inA a) s.heap s.heap [] := va_S.rf
  have hl : lv_has ls 3 [(0, .ref (a 0)), (1, .int (iI f)), (2, .int (iI b))] := hl
  skip
  refine z_aload_n C hl 0 rfl dX7_seat_0 ?_
  refine zg_X7_12 C hP dX7_seat_1 ?_
  refine z_iload_n C hl 1 rfl dX7_seat_4 ?_
  refine z_vSi C hP (As := [.int (iI f)]) lk_X7_70 (c_X6_isThere hI σ f hr1 hth) (ob_set (by unfold zSet; omega)) rfl rfl rfl hl.1 rfl (Nat.le_of_ble_eq_true rfl) ⟨Nat.le_of_ble_eq_true rfl, Nat.le_of_ble_eq_true rfl⟩ ⟨Nat.zero_le _, Nat.zero_le _⟩ dX7_seat_5 ?_
  by_cases b_5 : 0 ≤ f ∧ f ≤ 3 ∧ σ (40 + f) 0 = 1
  · rw [show (if 0 ≤ f ∧ f ≤ 3 ∧ σ (40 + f) 0 = 1 then (1 : Int) else 0) = 1 from if_pos b_5]
    refine z_ifF_eq C 27 dX7_seat_8 (by decide) ⟨by decide, by decide⟩ (by decide) ?_
    refine z_aload_n C hl 0 rfl dX7_seat_11 ?_
    refine zg_X7_12 C hP dX7_seat_12 ?_
    refine z_iload_n C hl 2 rfl dX7_seat_15 ?_
    refine z_vSi C hP (As := [.int (iI b)]) lk_X7_70 (c_X6_isThere hI σ b hr2 hth) (ob_set (by unfold zSet; omega)) rfl rfl rfl hl.1 rfl (Nat.le_of_ble_eq_true rfl) ⟨Nat.le_of_ble_eq_true rfl, Nat.le_of_ble_eq_true rfl⟩ ⟨Nat.zero_le _, Nat.zero_le _⟩ dX7_seat_16 ?_
    by_cases b_16 : 0 ≤ b ∧ b ≤ 3 ∧ σ (40 + b) 0 = 1
    · rw [show (if 0 ≤ b ∧ b ≤ 3 ∧ σ (40 + b) 0 = 1 then (1 : Int) else 0) = 1 from if_pos b_16]
      refine z_ifF_eq C 27 dX7_seat_19 (by decide) ⟨by decide, by decide⟩ (by decide) ?_
      refine z_iload_n C hl 1 rfl dX7_seat_22 ?_
      refine z_iload_n C hl 2 rfl dX7_seat_23 ?_
      refine z_icmp_ne C 29 dX7_seat_24 (by decide) ⟨by omega, by omega⟩ ⟨by omega, by omega⟩ (fun c_24 => ?_) (fun c_24 => ?_)
      · refine z_aload_n C hl 0 rfl dX7_seat_29 ?_
        refine zg_X7_12 C hP dX7_seat_30 ?_
        refine z_iload_n C hl 1 rfl dX7_seat_33 ?_
        refine zp32_X7_78 C hP hS dX7_seat_34 (fun H locs hP hS => ?_)
        obtain ⟨t1, et1⟩ : ∃ z : zS, z = zU σ 32 7 f := ⟨_, rfl⟩
        rw [← et1] at hP
        refine z_aload_n C hl 0 rfl dX7_seat_37 ?_
        refine zg_X7_12 C hP dX7_seat_38 ?_
        refine z_iload_n C hl 2 rfl dX7_seat_41 ?_
        refine zp32_X7_82 C hP hS dX7_seat_42 (fun H locs hP hS => ?_)
        obtain ⟨t2, et2⟩ : ∃ z : zS, z = zU t1 32 8 b := ⟨_, rfl⟩
        rw [← et2] at hP
        refine z_iconst C dX7_seat_45 ?_
        exact z_retQi C hP hS hr hlocks rfl (by subst_vars; (repeat' split) <;> first | (exfalso; omega) | exact ⟨rfl, rfl⟩ | exact ⟨by assumption, rfl⟩) dX7_seat_46
      · refine z_iconst C dX7_seat_27 ?_
        exact z_retQi C hP hS hr hlocks rfl (by subst_vars; (repeat' split) <;> first | (exfalso; omega) | exact ⟨rfl, rfl⟩ | exact ⟨by assumption, rfl⟩) dX7_seat_28
    · rw [show (if 0 ≤ b ∧ b ≤ 3 ∧ σ (40 + b) 0 = 1 then (1 : Int) else 0) = 0 from if_neg b_16]
      refine z_ifT_eq C 27 dX7_seat_19 (by decide) ⟨by decide, by decide⟩ (by decide) ?_
      refine z_iconst C dX7_seat_27 ?_
      exact z_retQi C hP hS hr hlocks rfl (by subst_vars; (repeat' split) <;> first | (exfalso; omega) | exact ⟨rfl, rfl⟩ | exact ⟨by assumption, rfl⟩) dX7_seat_28
  · rw [show (if 0 ≤ f ∧ f ≤ 3 ∧ σ (40 + f) 0 = 1 then (1 : Int) else 0) = 0 from if_neg b_5]
    refine z_ifT_eq C 27 dX7_seat_8 (by decide) ⟨by decide, by decide⟩ (by decide) ?_
    refine z_iconst C dX7_seat_27 ?_
    exact z_retQi C hP hS hr hlocks rfl (by subst_vars; (repeat' split) <;> first | (exfalso; omega) | exact ⟨rfl, rfl⟩ | exact ⟨by assumption, rfl⟩) dX7_seat_28

set_option maxRecDepth 20000 in
set_option maxHeartbeats 4000000 in
theorem c_X7_set {l : Launch} {D : va_G} {Y : Nat → ClassId} {a : Int → Nat} (hI : zI a) (σ : zS) (w0 v : Int) (hr1 : R3 w0) (hr2 : R3 v) (hs : 0 ≤ σ 32 9 ∧ σ 32 9 ≤ 20 ∧ 0 ≤ σ 32 10 ∧ σ 32 10 ≤ 99 ∧ 0 ≤ σ 32 11 ∧ σ 32 11 ≤ 50) : zMet l yX7_set cX7_set 4 (some .int) 1 (zPc D Y a σ [.ref (a 0), .int (iI w0), .int (iI v)]) (zQi D Y a (fun r τ => if ¬ ((w0 = 0 ∧ 5 ≤ v ∧ v ≤ 20) ∨ (w0 = 1 ∧ 0 ≤ v ∧ v ≤ 99) ∨ (w0 = 2 ∧ 0 ≤ v ∧ v ≤ 50)) then r = -2 ∧ τ = σ else τ = zU σ 32 (9 + w0) v ∧ r = σ 32 (9 + w0))) (inA a) := by
  refine z_start rfl (Nat.le_of_ble_eq_true rfl) hI ?_
  intro p e s m below meth c ls C hr hlocks hl hP
  have hS : va_S (inA a) s.heap s.heap [] := va_S.rf
  have hl : lv_has ls 4 [(0, .ref (a 0)), (1, .int (iI w0)), (2, .int (iI v))] := hl
  skip
  refine z_iload_n C hl 1 rfl dX7_set_0 ?_
  refine z_if_ne C 33 dX7_set_1 (by decide) hr1 (fun c_1 => ?_) (fun c_1 => ?_)
  · refine z_iload_n C hl 1 rfl dX7_set_33 ?_
    refine z_iconst C dX7_set_34 ?_
    refine z_icmp_ne C 67 dX7_set_35 (by decide) hr1 ⟨by omega, by omega⟩ (fun c_35 => ?_) (fun c_35 => ?_)
    · refine z_iload_n C hl 1 rfl dX7_set_67 ?_
      refine z_iconst C dX7_set_68 ?_
      refine z_icmp_ne C 101 dX7_set_69 (by decide) hr1 ⟨by omega, by omega⟩ (fun c_69 => ?_) (fun c_69 => ?_)
      · refine z_bipush C (by decide +kernel) dX7_set_101 ?_
        refine z_istore_n C [1, 2, 3, 0] [(0, .ref (a 0)), (1, .int (iI w0)), (2, .int (iI v)), (3, .int (iI (-2)))] hl (by decide) rfl dX7_set_103 (fun ls hl => ?_)
        refine z_iload_n C hl 3 rfl dX7_set_104 ?_
        exact z_retQi C hP hS hr hlocks rfl (by subst_vars; (repeat' split) <;> first | (exfalso; omega) | exact ⟨rfl, rfl⟩) dX7_set_105
      · refine z_iload_n C hl 2 rfl dX7_set_72 ?_
        refine z_iconst C dX7_set_73 ?_
        refine z_bipush C (by decide +kernel) dX7_set_74 ?_
        refine z_sSi C hP (As := [.int (iI v), .int (iI 0), .int (iI 50)]) lk_X7_52 (c_X7_isWithin hI σ v 0 50 (by omega) (by omega) (by omega)) rfl hl.1 rfl (Nat.le_of_ble_eq_true rfl) ⟨Nat.le_of_ble_eq_true rfl, Nat.le_of_ble_eq_true rfl⟩ ⟨Nat.zero_le _, Nat.zero_le _⟩ dX7_set_76 ?_
        by_cases b_76 : 0 ≤ v ∧ v ≤ 50
        · rw [show (if 0 ≤ v ∧ v ≤ 50 then (1 : Int) else 0) = 1 from if_pos b_76]
          refine z_ifF_eq C 101 dX7_set_79 (by decide) ⟨by decide, by decide⟩ (by decide) ?_
          refine z_aload_n C hl 0 rfl dX7_set_82 ?_
          refine zg_X7_12 C hP dX7_set_83 ?_
          refine zg32_X7_91 C hP dX7_set_86 ?_
          refine z_topi (fun x1 hx1 => ?_)
          refine z_istore_n C [1, 2, 3, 0] [(0, .ref (a 0)), (1, .int (iI w0)), (2, .int (iI v)), (3, .int (iI x1))] hl (by decide) rfl dX7_set_89 (fun ls hl => ?_)
          refine z_aload_n C hl 0 rfl dX7_set_90 ?_
          refine zg_X7_12 C hP dX7_set_91 ?_
          refine z_iload_n C hl 2 rfl dX7_set_94 ?_
          refine zp32_X7_91 C hP hS dX7_set_95 (fun H locs hP hS => ?_)
          obtain ⟨t2, et2⟩ : ∃ z : zS, z = zU σ 32 11 v := ⟨_, rfl⟩
          rw [← et2] at hP
          refine z_goto C 104 dX7_set_98 (by decide) ?_
          refine z_iload_n C hl 3 rfl dX7_set_104 ?_
          exact z_retQi C hP hS hr hlocks rfl (by subst_vars; (repeat' split) <;> first | (exfalso; omega) | exact ⟨rfl, rfl⟩) dX7_set_105
        · rw [show (if 0 ≤ v ∧ v ≤ 50 then (1 : Int) else 0) = 0 from if_neg b_76]
          refine z_ifT_eq C 101 dX7_set_79 (by decide) ⟨by decide, by decide⟩ (by decide) ?_
          refine z_bipush C (by decide +kernel) dX7_set_101 ?_
          refine z_istore_n C [1, 2, 3, 0] [(0, .ref (a 0)), (1, .int (iI w0)), (2, .int (iI v)), (3, .int (iI (-2)))] hl (by decide) rfl dX7_set_103 (fun ls hl => ?_)
          refine z_iload_n C hl 3 rfl dX7_set_104 ?_
          exact z_retQi C hP hS hr hlocks rfl (by subst_vars; (repeat' split) <;> first | (exfalso; omega) | exact ⟨rfl, rfl⟩) dX7_set_105
    · refine z_iload_n C hl 2 rfl dX7_set_38 ?_
      refine z_iconst C dX7_set_39 ?_
      refine z_bipush C (by decide +kernel) dX7_set_40 ?_
      refine z_sSi C hP (As := [.int (iI v), .int (iI 0), .int (iI 99)]) lk_X7_52 (c_X7_isWithin hI σ v 0 99 (by omega) (by omega) (by omega)) rfl hl.1 rfl (Nat.le_of_ble_eq_true rfl) ⟨Nat.le_of_ble_eq_true rfl, Nat.le_of_ble_eq_true rfl⟩ ⟨Nat.zero_le _, Nat.zero_le _⟩ dX7_set_42 ?_
      by_cases b_42 : 0 ≤ v ∧ v ≤ 99
      · rw [show (if 0 ≤ v ∧ v ≤ 99 then (1 : Int) else 0) = 1 from if_pos b_42]
        refine z_ifF_eq C 67 dX7_set_45 (by decide) ⟨by decide, by decide⟩ (by decide) ?_
        refine z_aload_n C hl 0 rfl dX7_set_48 ?_
        refine zg_X7_12 C hP dX7_set_49 ?_
        refine zg32_X7_88 C hP dX7_set_52 ?_
        refine z_topi (fun x3 hx3 => ?_)
        refine z_istore_n C [1, 2, 3, 0] [(0, .ref (a 0)), (1, .int (iI w0)), (2, .int (iI v)), (3, .int (iI x3))] hl (by decide) rfl dX7_set_55 (fun ls hl => ?_)
        refine z_aload_n C hl 0 rfl dX7_set_56 ?_
        refine zg_X7_12 C hP dX7_set_57 ?_
        refine z_iload_n C hl 2 rfl dX7_set_60 ?_
        refine zp32_X7_88 C hP hS dX7_set_61 (fun H locs hP hS => ?_)
        obtain ⟨t4, et4⟩ : ∃ z : zS, z = zU σ 32 10 v := ⟨_, rfl⟩
        rw [← et4] at hP
        refine z_goto C 104 dX7_set_64 (by decide) ?_
        refine z_iload_n C hl 3 rfl dX7_set_104 ?_
        exact z_retQi C hP hS hr hlocks rfl (by subst_vars; (repeat' split) <;> first | (exfalso; omega) | exact ⟨rfl, rfl⟩) dX7_set_105
      · rw [show (if 0 ≤ v ∧ v ≤ 99 then (1 : Int) else 0) = 0 from if_neg b_42]
        refine z_ifT_eq C 67 dX7_set_45 (by decide) ⟨by decide, by decide⟩ (by decide) ?_
        refine z_iload_n C hl 1 rfl dX7_set_67 ?_
        refine z_iconst C dX7_set_68 ?_
        refine z_icmp_ne C 101 dX7_set_69 (by decide) hr1 ⟨by omega, by omega⟩ (fun c_69 => ?_) (fun c_69 => ?_)
        · refine z_bipush C (by decide +kernel) dX7_set_101 ?_
          refine z_istore_n C [1, 2, 3, 0] [(0, .ref (a 0)), (1, .int (iI w0)), (2, .int (iI v)), (3, .int (iI (-2)))] hl (by decide) rfl dX7_set_103 (fun ls hl => ?_)
          refine z_iload_n C hl 3 rfl dX7_set_104 ?_
          exact z_retQi C hP hS hr hlocks rfl (by subst_vars; (repeat' split) <;> first | (exfalso; omega) | exact ⟨rfl, rfl⟩) dX7_set_105
        · refine z_iload_n C hl 2 rfl dX7_set_72 ?_
          refine z_iconst C dX7_set_73 ?_
          refine z_bipush C (by decide +kernel) dX7_set_74 ?_
          refine z_sSi C hP (As := [.int (iI v), .int (iI 0), .int (iI 50)]) lk_X7_52 (c_X7_isWithin hI σ v 0 50 (by omega) (by omega) (by omega)) rfl hl.1 rfl (Nat.le_of_ble_eq_true rfl) ⟨Nat.le_of_ble_eq_true rfl, Nat.le_of_ble_eq_true rfl⟩ ⟨Nat.zero_le _, Nat.zero_le _⟩ dX7_set_76 ?_
          by_cases b_76 : 0 ≤ v ∧ v ≤ 50
          · rw [show (if 0 ≤ v ∧ v ≤ 50 then (1 : Int) else 0) = 1 from if_pos b_76]
            refine z_ifF_eq C 101 dX7_set_79 (by decide) ⟨by decide, by decide⟩ (by decide) ?_
            refine z_aload_n C hl 0 rfl dX7_set_82 ?_
            refine zg_X7_12 C hP dX7_set_83 ?_
            refine zg32_X7_91 C hP dX7_set_86 ?_
            refine z_topi (fun x5 hx5 => ?_)
            refine z_istore_n C [1, 2, 3, 0] [(0, .ref (a 0)), (1, .int (iI w0)), (2, .int (iI v)), (3, .int (iI x5))] hl (by decide) rfl dX7_set_89 (fun ls hl => ?_)
            refine z_aload_n C hl 0 rfl dX7_set_90 ?_
            refine zg_X7_12 C hP dX7_set_91 ?_
            refine z_iload_n C hl 2 rfl dX7_set_94 ?_
            refine zp32_X7_91 C hP hS dX7_set_95 (fun H locs hP hS => ?_)
            obtain ⟨t6, et6⟩ : ∃ z : zS, z = zU σ 32 11 v := ⟨_, rfl⟩
            rw [← et6] at hP
            refine z_goto C 104 dX7_set_98 (by decide) ?_
            refine z_iload_n C hl 3 rfl dX7_set_104 ?_
            exact z_retQi C hP hS hr hlocks rfl (by subst_vars; (repeat' split) <;> first | (exfalso; omega) | exact ⟨rfl, rfl⟩) dX7_set_105
          · rw [show (if 0 ≤ v ∧ v ≤ 50 then (1 : Int) else 0) = 0 from if_neg b_76]
            refine z_ifT_eq C 101 dX7_set_79 (by decide) ⟨by decide, by decide⟩ (by decide) ?_
            refine z_bipush C (by decide +kernel) dX7_set_101 ?_
            refine z_istore_n C [1, 2, 3, 0] [(0, .ref (a 0)), (1, .int (iI w0)), (2, .int (iI v)), (3, .int (iI (-2)))] hl (by decide) rfl dX7_set_103 (fun ls hl => ?_)
            refine z_iload_n C hl 3 rfl dX7_set_104 ?_
            exact z_retQi C hP hS hr hlocks rfl (by subst_vars; (repeat' split) <;> first | (exfalso; omega) | exact ⟨rfl, rfl⟩) dX7_set_105
  · refine z_iload_n C hl 2 rfl dX7_set_4 ?_
    refine z_iconst C dX7_set_5 ?_
    refine z_bipush C (by decide +kernel) dX7_set_6 ?_
    refine z_sSi C hP (As := [.int (iI v), .int (iI 5), .int (iI 20)]) lk_X7_52 (c_X7_isWithin hI σ v 5 20 (by omega) (by omega) (by omega)) rfl hl.1 rfl (Nat.le_of_ble_eq_true rfl) ⟨Nat.le_of_ble_eq_true rfl, Nat.le_of_ble_eq_true rfl⟩ ⟨Nat.zero_le _, Nat.zero_le _⟩ dX7_set_8 ?_
    by_cases b_8 : 5 ≤ v ∧ v ≤ 20
    · rw [show (if 5 ≤ v ∧ v ≤ 20 then (1 : Int) else 0) = 1 from if_pos b_8]
      refine z_ifF_eq C 33 dX7_set_11 (by decide) ⟨by decide, by decide⟩ (by decide) ?_
      refine z_aload_n C hl 0 rfl dX7_set_14 ?_
      refine zg_X7_12 C hP dX7_set_15 ?_
      refine zg32_X7_85 C hP dX7_set_18 ?_
      refine z_topi (fun x7 hx7 => ?_)
      refine z_istore_n C [1, 2, 3, 0] [(0, .ref (a 0)), (1, .int (iI w0)), (2, .int (iI v)), (3, .int (iI x7))] hl (by decide) rfl dX7_set_21 (fun ls hl => ?_)
      refine z_aload_n C hl 0 rfl dX7_set_22 ?_
      refine zg_X7_12 C hP dX7_set_23 ?_
      refine z_iload_n C hl 2 rfl dX7_set_26 ?_
      refine zp32_X7_85 C hP hS dX7_set_27 (fun H locs hP hS => ?_)
      obtain ⟨t8, et8⟩ : ∃ z : zS, z = zU σ 32 9 v := ⟨_, rfl⟩
      rw [← et8] at hP
      refine z_goto C 104 dX7_set_30 (by decide) ?_
      refine z_iload_n C hl 3 rfl dX7_set_104 ?_
      exact z_retQi C hP hS hr hlocks rfl (by subst_vars; (repeat' split) <;> first | (exfalso; omega) | exact ⟨rfl, rfl⟩) dX7_set_105
    · rw [show (if 5 ≤ v ∧ v ≤ 20 then (1 : Int) else 0) = 0 from if_neg b_8]
      refine z_ifT_eq C 33 dX7_set_11 (by decide) ⟨by decide, by decide⟩ (by decide) ?_
      refine z_iload_n C hl 1 rfl dX7_set_33 ?_
      refine z_iconst C dX7_set_34 ?_
      refine z_icmp_ne C 67 dX7_set_35 (by decide) hr1 ⟨by omega, by omega⟩ (fun c_35 => ?_) (fun c_35 => ?_)
      · refine z_iload_n C hl 1 rfl dX7_set_67 ?_
        refine z_iconst C dX7_set_68 ?_
        refine z_icmp_ne C 101 dX7_set_69 (by decide) hr1 ⟨by omega, by omega⟩ (fun c_69 => ?_) (fun c_69 => ?_)
        · refine z_bipush C (by decide +kernel) dX7_set_101 ?_
          refine z_istore_n C [1, 2, 3, 0] [(0, .ref (a 0)), (1, .int (iI w0)), (2, .int (iI v)), (3, .int (iI (-2)))] hl (by decide) rfl dX7_set_103 (fun ls hl => ?_)
          refine z_iload_n C hl 3 rfl dX7_set_104 ?_
          exact z_retQi C hP hS hr hlocks rfl (by subst_vars; (repeat' split) <;> first | (exfalso; omega) | exact ⟨rfl, rfl⟩) dX7_set_105
        · refine z_iload_n C hl 2 rfl dX7_set_72 ?_
          refine z_iconst C dX7_set_73 ?_
          refine z_bipush C (by decide +kernel) dX7_set_74 ?_
          refine z_sSi C hP (As := [.int (iI v), .int (iI 0), .int (iI 50)]) lk_X7_52 (c_X7_isWithin hI σ v 0 50 (by omega) (by omega) (by omega)) rfl hl.1 rfl (Nat.le_of_ble_eq_true rfl) ⟨Nat.le_of_ble_eq_true rfl, Nat.le_of_ble_eq_true rfl⟩ ⟨Nat.zero_le _, Nat.zero_le _⟩ dX7_set_76 ?_
          by_cases b_76 : 0 ≤ v ∧ v ≤ 50
          · rw [show (if 0 ≤ v ∧ v ≤ 50 then (1 : Int) else 0) = 1 from if_pos b_76]
            refine z_ifF_eq C 101 dX7_set_79 (by decide) ⟨by decide, by decide⟩ (by decide) ?_
            refine z_aload_n C hl 0 rfl dX7_set_82 ?_
            refine zg_X7_12 C hP dX7_set_83 ?_
            refine zg32_X7_91 C hP dX7_set_86 ?_
            refine z_topi (fun x9 hx9 => ?_)
            refine z_istore_n C [1, 2, 3, 0] [(0, .ref (a 0)), (1, .int (iI w0)), (2, .int (iI v)), (3, .int (iI x9))] hl (by decide) rfl dX7_set_89 (fun ls hl => ?_)
            refine z_aload_n C hl 0 rfl dX7_set_90 ?_
            refine zg_X7_12 C hP dX7_set_91 ?_
            refine z_iload_n C hl 2 rfl dX7_set_94 ?_
            refine zp32_X7_91 C hP hS dX7_set_95 (fun H locs hP hS => ?_)
            obtain ⟨t10, et10⟩ : ∃ z : zS, z = zU σ 32 11 v := ⟨_, rfl⟩
            rw [← et10] at hP
            refine z_goto C 104 dX7_set_98 (by decide) ?_
            refine z_iload_n C hl 3 rfl dX7_set_104 ?_
            exact z_retQi C hP hS hr hlocks rfl (by subst_vars; (repeat' split) <;> first | (exfalso; omega) | exact ⟨rfl, rfl⟩) dX7_set_105
          · rw [show (if 0 ≤ v ∧ v ≤ 50 then (1 : Int) else 0) = 0 from if_neg b_76]
            refine z_ifT_eq C 101 dX7_set_79 (by decide) ⟨by decide, by decide⟩ (by decide) ?_
            refine z_bipush C (by decide +kernel) dX7_set_101 ?_
            refine z_istore_n C [1, 2, 3, 0] [(0, .ref (a 0)), (1, .int (iI w0)), (2, .int (iI v)), (3, .int (iI (-2)))] hl (by decide) rfl dX7_set_103 (fun ls hl => ?_)
            refine z_iload_n C hl 3 rfl dX7_set_104 ?_
            exact z_retQi C hP hS hr hlocks rfl (by subst_vars; (repeat' split) <;> first | (exfalso; omega) | exact ⟨rfl, rfl⟩) dX7_set_105
      · refine z_iload_n C hl 2 rfl dX7_set_38 ?_
        refine z_iconst C dX7_set_39 ?_
        refine z_bipush C (by decide +kernel) dX7_set_40 ?_
        refine z_sSi C hP (As := [.int (iI v), .int (iI 0), .int (iI 99)]) lk_X7_52 (c_X7_isWithin hI σ v 0 99 (by omega) (by omega) (by omega)) rfl hl.1 rfl (Nat.le_of_ble_eq_true rfl) ⟨Nat.le_of_ble_eq_true rfl, Nat.le_of_ble_eq_true rfl⟩ ⟨Nat.zero_le _, Nat.zero_le _⟩ dX7_set_42 ?_
        by_cases b_42 : 0 ≤ v ∧ v ≤ 99
        · rw [show (if 0 ≤ v ∧ v ≤ 99 then (1 : Int) else 0) = 1 from if_pos b_42]
          refine z_ifF_eq C 67 dX7_set_45 (by decide) ⟨by decide, by decide⟩ (by decide) ?_
          refine z_aload_n C hl 0 rfl dX7_set_48 ?_
          refine zg_X7_12 C hP dX7_set_49 ?_
          refine zg32_X7_88 C hP dX7_set_52 ?_
          refine z_topi (fun x11 hx11 => ?_)
          refine z_istore_n C [1, 2, 3, 0] [(0, .ref (a 0)), (1, .int (iI w0)), (2, .int (iI v)), (3, .int (iI x11))] hl (by decide) rfl dX7_set_55 (fun ls hl => ?_)
          refine z_aload_n C hl 0 rfl dX7_set_56 ?_
          refine zg_X7_12 C hP dX7_set_57 ?_
          refine z_iload_n C hl 2 rfl dX7_set_60 ?_
          refine zp32_X7_88 C hP hS dX7_set_61 (fun H locs hP hS => ?_)
          obtain ⟨t12, et12⟩ : ∃ z : zS, z = zU σ 32 10 v := ⟨_, rfl⟩
          rw [← et12] at hP
          refine z_goto C 104 dX7_set_64 (by decide) ?_
          refine z_iload_n C hl 3 rfl dX7_set_104 ?_
          exact z_retQi C hP hS hr hlocks rfl (by subst_vars; (repeat' split) <;> first | (exfalso; omega) | exact ⟨rfl, rfl⟩) dX7_set_105
        · rw [show (if 0 ≤ v ∧ v ≤ 99 then (1 : Int) else 0) = 0 from if_neg b_42]
          refine z_ifT_eq C 67 dX7_set_45 (by decide) ⟨by decide, by decide⟩ (by decide) ?_
          refine z_iload_n C hl 1 rfl dX7_set_67 ?_
          refine z_iconst C dX7_set_68 ?_
          refine z_icmp_ne C 101 dX7_set_69 (by decide) hr1 ⟨by omega, by omega⟩ (fun c_69 => ?_) (fun c_69 => ?_)
          · refine z_bipush C (by decide +kernel) dX7_set_101 ?_
            refine z_istore_n C [1, 2, 3, 0] [(0, .ref (a 0)), (1, .int (iI w0)), (2, .int (iI v)), (3, .int (iI (-2)))] hl (by decide) rfl dX7_set_103 (fun ls hl => ?_)
            refine z_iload_n C hl 3 rfl dX7_set_104 ?_
            exact z_retQi C hP hS hr hlocks rfl (by subst_vars; (repeat' split) <;> first | (exfalso; omega) | exact ⟨rfl, rfl⟩) dX7_set_105
          · refine z_iload_n C hl 2 rfl dX7_set_72 ?_
            refine z_iconst C dX7_set_73 ?_
            refine z_bipush C (by decide +kernel) dX7_set_74 ?_
            refine z_sSi C hP (As := [.int (iI v), .int (iI 0), .int (iI 50)]) lk_X7_52 (c_X7_isWithin hI σ v 0 50 (by omega) (by omega) (by omega)) rfl hl.1 rfl (Nat.le_of_ble_eq_true rfl) ⟨Nat.le_of_ble_eq_true rfl, Nat.le_of_ble_eq_true rfl⟩ ⟨Nat.zero_le _, Nat.zero_le _⟩ dX7_set_76 ?_
            by_cases b_76 : 0 ≤ v ∧ v ≤ 50
            · rw [show (if 0 ≤ v ∧ v ≤ 50 then (1 : Int) else 0) = 1 from if_pos b_76]
              refine z_ifF_eq C 101 dX7_set_79 (by decide) ⟨by decide, by decide⟩ (by decide) ?_
              refine z_aload_n C hl 0 rfl dX7_set_82 ?_
              refine zg_X7_12 C hP dX7_set_83 ?_
              refine zg32_X7_91 C hP dX7_set_86 ?_
              refine z_topi (fun x13 hx13 => ?_)
              refine z_istore_n C [1, 2, 3, 0] [(0, .ref (a 0)), (1, .int (iI w0)), (2, .int (iI v)), (3, .int (iI x13))] hl (by decide) rfl dX7_set_89 (fun ls hl => ?_)
              refine z_aload_n C hl 0 rfl dX7_set_90 ?_
              refine zg_X7_12 C hP dX7_set_91 ?_
              refine z_iload_n C hl 2 rfl dX7_set_94 ?_
              refine zp32_X7_91 C hP hS dX7_set_95 (fun H locs hP hS => ?_)
              obtain ⟨t14, et14⟩ : ∃ z : zS, z = zU σ 32 11 v := ⟨_, rfl⟩
              rw [← et14] at hP
              refine z_goto C 104 dX7_set_98 (by decide) ?_
              refine z_iload_n C hl 3 rfl dX7_set_104 ?_
              exact z_retQi C hP hS hr hlocks rfl (by subst_vars; (repeat' split) <;> first | (exfalso; omega) | exact ⟨rfl, rfl⟩) dX7_set_105
            · rw [show (if 0 ≤ v ∧ v ≤ 50 then (1 : Int) else 0) = 0 from if_neg b_76]
              refine z_ifT_eq C 101 dX7_set_79 (by decide) ⟨by decide, by decide⟩ (by decide) ?_
              refine z_bipush C (by decide +kernel) dX7_set_101 ?_
              refine z_istore_n C [1, 2, 3, 0] [(0, .ref (a 0)), (1, .int (iI w0)), (2, .int (iI v)), (3, .int (iI (-2)))] hl (by decide) rfl dX7_set_103 (fun ls hl => ?_)
              refine z_iload_n C hl 3 rfl dX7_set_104 ?_
              exact z_retQi C hP hS hr hlocks rfl (by subst_vars; (repeat' split) <;> first | (exfalso; omega) | exact ⟨rfl, rfl⟩) dX7_set_105

set_option maxRecDepth 20000 in
set_option maxHeartbeats 4000000 in
theorem c_X1_add {l : Launch} {D : va_G} {Y : Nat → ClassId} {a : Int → Nat} (hI : zI a) (σ : zS) (sg : Int) (hp : 0 ≤ σ 3 1 ∧ σ 3 1 ≤ 110) (h0 : σ 3 1 < 110) : zMet l yX1_add cX1_add 2 none 0 (zPc D Y a σ [.ref (a 3), .int (iI sg)]) (zQv D Y a (fun τ => τ = zU (zU σ 4 (σ 3 1) sg) 3 1 (σ 3 1 + 1))) (inA a) := by
  refine z_start rfl (Nat.le_of_ble_eq_true rfl) hI ?_
  intro p e s m below meth c ls C hr hlocks hl hP
  have hS : va_S (inA a) s.heap s.heap [] := va_S.rf
  have hl : lv_has ls 2 [(0, .ref (a 3)), (1, .int (iI sg))] := hl
  skip
  refine z_aload_n C hl 0 rfl dX1_add_0 ?_
  refine zg_X1_15 C hP dX1_add_1 ?_
  refine z_if_lt C 19 dX1_add_4 (by decide) ⟨by omega, by omega⟩ (fun c_4 => ?_) (fun c_4 => ?_)
  · exact z_retQv C hP hS hr hlocks (by first | (exfalso; omega) | (subst_vars; rfl)) dX1_add_19
  · refine z_aload_n C hl 0 rfl dX1_add_7 ?_
    refine zg_X1_15 C hP dX1_add_8 ?_
    refine z_aload_n C hl 0 rfl dX1_add_11 ?_
    refine zg_X1_9 C hP dX1_add_12 ?_
    refine z_alen C hP ia_4 dX1_add_15 ?_
    refine z_icmp_lt C 20 dX1_add_16 (by decide) ⟨by omega, by omega⟩ ⟨by omega, by omega⟩ (fun c_16 => ?_) (fun c_16 => ?_)
    · refine z_aload_n C hl 0 rfl dX1_add_20 ?_
      refine zg_X1_9 C hP dX1_add_21 ?_
      refine z_aload_n C hl 0 rfl dX1_add_24 ?_
      refine zg_X1_15 C hP dX1_add_25 ?_
      refine z_iload_n C hl 1 rfl dX1_add_28 ?_
      refine z_iast C hP hS ia_4 ⟨by omega, by omega⟩ dX1_add_29 (fun H locs hP hS => ?_)
      obtain ⟨t1, et1⟩ : ∃ z : zS, z = zU σ 4 (σ 3 1) sg := ⟨_, rfl⟩
      rw [← et1] at hP
      refine z_aload_n C hl 0 rfl dX1_add_30 ?_
      refine z_dup C rfl dX1_add_31 ?_
      refine zg_X1_15 C hP dX1_add_32 ?_
      rw [show t1 3 1 = σ 3 1 from by rw [et1, zU_cell (by decide)]]
      refine z_iconst C dX1_add_35 ?_
      refine z_iadd C dX1_add_36 ?_
      refine zp_X1_15 C hP hS dX1_add_37 (fun H locs hP hS => ?_)
      obtain ⟨t2, et2⟩ : ∃ z : zS, z = zU t1 3 1 ((σ 3 1) + 1) := ⟨_, rfl⟩
      rw [← et2] at hP
      exact z_retQv C hP hS hr hlocks (by first | (exfalso; omega) | (subst_vars; rfl)) dX1_add_40
    · exact z_retQv C hP hS hr hlocks (by first | (exfalso; omega) | (subst_vars; rfl)) dX1_add_19

set_option maxRecDepth 20000 in
set_option maxHeartbeats 4000000 in
theorem c_X7_say {l : Launch} {D : va_G} {Y : Nat → ClassId} {a : Int → Nat} (hI : zI a) (σ : zS) (sg : Int) (hr1 : R3 sg) (hp : 0 ≤ σ 3 1 ∧ σ 3 1 ≤ 110) : zMet l yX7_say cX7_say 2 (some .int) 1 (zPc D Y a σ [.ref (a 0), .int (iI sg)]) (zQi D Y a (fun r τ => if ¬ (33 ≤ sg ∧ sg ≤ 126) then r = -2 ∧ τ = σ else if 110 ≤ σ 3 1 then r = -4 ∧ τ = σ else τ = zU (zU σ 4 (σ 3 1) sg) 3 1 (σ 3 1 + 1) ∧ r = σ 3 1 + 1)) (inA a) := by
  refine z_start rfl (Nat.le_of_ble_eq_true rfl) hI ?_
  intro p e s m below meth c ls C hr hlocks hl hP
  have hS : va_S (inA a) s.heap s.heap [] := va_S.rf
  have hl : lv_has ls 2 [(0, .ref (a 0)), (1, .int (iI sg))] := hl
  skip
  refine z_iload_n C hl 1 rfl dX7_say_0 ?_
  refine z_bipush C (by decide +kernel) dX7_say_1 ?_
  refine z_bipush C (by decide +kernel) dX7_say_3 ?_
  refine z_sSi C hP (As := [.int (iI sg), .int (iI 33), .int (iI 126)]) lk_X7_52 (c_X7_isWithin hI σ sg 33 126 (by omega) (by omega) (by omega)) rfl hl.1 rfl (Nat.le_of_ble_eq_true rfl) ⟨Nat.le_of_ble_eq_true rfl, Nat.le_of_ble_eq_true rfl⟩ ⟨Nat.zero_le _, Nat.zero_le _⟩ dX7_say_5 ?_
  by_cases b_5 : 33 ≤ sg ∧ sg ≤ 126
  · rw [show (if 33 ≤ sg ∧ sg ≤ 126 then (1 : Int) else 0) = 1 from if_pos b_5]
    refine z_ifT_ne C 14 dX7_say_8 (by decide) ⟨by decide, by decide⟩ (by decide) ?_
    refine z_aload_n C hl 0 rfl dX7_say_14 ?_
    refine zg_X7_27 C hP dX7_say_15 ?_
    refine zg_X7_94 C hP dX7_say_18 ?_
    refine z_bipush C (by decide +kernel) dX7_say_21 ?_
    refine z_icmp_lt C 29 dX7_say_23 (by decide) ⟨by omega, by omega⟩ ⟨by omega, by omega⟩ (fun c_23 => ?_) (fun c_23 => ?_)
    · refine z_aload_n C hl 0 rfl dX7_say_29 ?_
      refine zg_X7_27 C hP dX7_say_30 ?_
      refine z_iload_n C hl 1 rfl dX7_say_33 ?_
      refine z_vQv hS C hP (As := [.int (iI sg)]) lk_X7_97 (c_X1_add hI σ sg (by omega) (by omega)) ob_3 rfl rfl rfl hl.1 rfl (Nat.le_of_ble_eq_true rfl) ⟨Nat.le_of_ble_eq_true rfl, Nat.le_of_ble_eq_true rfl⟩ ⟨Nat.zero_le _, Nat.zero_le _⟩ dX7_say_34 (fun t2 H locs hp34 hP hS => ?_)
      refine z_aload_n C hl 0 rfl dX7_say_37 ?_
      refine zg_X7_27 C hP dX7_say_38 ?_
      refine zg_X7_94 C hP dX7_say_41 ?_
      exact z_retQi C hP hS hr hlocks rfl (by subst_vars; (repeat' split) <;> first | (exfalso; omega) | exact ⟨rfl, rfl⟩ | exact ⟨by assumption, rfl⟩ | (subst_vars; exact ⟨rfl, by simp [zU]⟩)) dX7_say_44
    · refine z_bipush C (by decide +kernel) dX7_say_26 ?_
      exact z_retQi C hP hS hr hlocks rfl (by subst_vars; (repeat' split) <;> first | (exfalso; omega) | exact ⟨rfl, rfl⟩ | exact ⟨by assumption, rfl⟩ | (subst_vars; exact ⟨rfl, by simp [zU]⟩)) dX7_say_28
  · rw [show (if 33 ≤ sg ∧ sg ≤ 126 then (1 : Int) else 0) = 0 from if_neg b_5]
    refine z_ifF_ne C 14 dX7_say_8 (by decide) ⟨by decide, by decide⟩ (by decide) ?_
    refine z_bipush C (by decide +kernel) dX7_say_11 ?_
    exact z_retQi C hP hS hr hlocks rfl (by subst_vars; (repeat' split) <;> first | (exfalso; omega) | exact ⟨rfl, rfl⟩ | exact ⟨by assumption, rfl⟩ | (subst_vars; exact ⟨rfl, by simp [zU]⟩)) dX7_say_13

set_option maxRecDepth 20000 in
set_option maxHeartbeats 4000000 in
theorem c_X7_wipe {l : Launch} {D : va_G} {Y : Nat → ClassId} {a : Int → Nat} (hI : zI a) (σ : zS)  (hp : 0 ≤ σ 3 1 ∧ σ 3 1 ≤ 110) : zMet l yX7_wipe cX7_wipe 2 (some .int) 0 (zPc D Y a σ [.ref (a 0)]) (zQi D Y a (fun r τ => τ = zU σ 3 1 0 ∧ r = σ 3 1)) (inA a) := by
  refine z_start rfl (Nat.le_of_ble_eq_true rfl) hI ?_
  intro p e s m below meth c ls C hr hlocks hl hP
  have hS : va_S (inA a) s.heap s.heap [] := va_S.rf
  have hl : lv_has ls 2 [(0, .ref (a 0))] := hl
  skip
  refine z_aload_n C hl 0 rfl dX7_wipe_0 ?_
  refine zg_X7_27 C hP dX7_wipe_1 ?_
  refine zg_X7_94 C hP dX7_wipe_4 ?_
  refine z_topi (fun x1 hx1 => ?_)
  refine z_istore_n C [1, 0] [(0, .ref (a 0)), (1, .int (iI x1))] hl (by decide) rfl dX7_wipe_7 (fun ls hl => ?_)
  refine z_aload_n C hl 0 rfl dX7_wipe_8 ?_
  refine zg_X7_27 C hP dX7_wipe_9 ?_
  refine z_iconst C dX7_wipe_12 ?_
  refine zp_X7_94 C hP hS dX7_wipe_13 (fun H locs hP hS => ?_)
  obtain ⟨t2, et2⟩ : ∃ z : zS, z = zU σ 3 1 0 := ⟨_, rfl⟩
  rw [← et2] at hP
  refine z_iload_n C hl 1 rfl dX7_wipe_16 ?_
  exact z_retQi C hP hS hr hlocks rfl (by subst_vars; exact ⟨rfl, rfl⟩) dX7_wipe_17

set_option maxRecDepth 20000 in
set_option maxHeartbeats 4000000 in
theorem c_X7_forget {l : Launch} {D : va_G} {Y : Nat → ClassId} {a : Int → Nat} (hI : zI a) (σ : zS)  : zMet l yX7_forget cX7_forget 2 (some .int) 0 (zPc D Y a σ [.ref (a 0)]) (zQi D Y a (fun r τ => τ = zU σ 32 13 0 ∧ r = σ 32 13)) (inA a) := by
  refine z_start rfl (Nat.le_of_ble_eq_true rfl) hI ?_
  intro p e s m below meth c ls C hr hlocks hl hP
  have hS : va_S (inA a) s.heap s.heap [] := va_S.rf
  have hl : lv_has ls 2 [(0, .ref (a 0))] := hl
  skip
  refine z_aload_n C hl 0 rfl dX7_forget_0 ?_
  refine zg_X7_12 C hP dX7_forget_1 ?_
  refine zg32_X7_255 C hP dX7_forget_4 ?_
  refine z_topi (fun x1 hx1 => ?_)
  refine z_istore_n C [1, 0] [(0, .ref (a 0)), (1, .int (iI x1))] hl (by decide) rfl dX7_forget_7 (fun ls hl => ?_)
  refine z_aload_n C hl 0 rfl dX7_forget_8 ?_
  refine zg_X7_12 C hP dX7_forget_9 ?_
  refine z_iconst C dX7_forget_12 ?_
  refine zp32_X7_255 C hP hS dX7_forget_13 (fun H locs hP hS => ?_)
  obtain ⟨t2, et2⟩ : ∃ z : zS, z = zU σ 32 13 0 := ⟨_, rfl⟩
  rw [← et2] at hP
  refine z_iload_n C hl 1 rfl dX7_forget_16 ?_
  exact z_retQi C hP hS hr hlocks rfl (by subst_vars; exact ⟨rfl, rfl⟩) dX7_forget_17
