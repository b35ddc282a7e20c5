def mBit (n r : Int) : Int := n / 2 ^ r.toNat % 2
def mSetB (n r : Int) : Int := if mBit n r = 1 then n else n + 2 ^ r.toNat
def mClrB (n r : Int) : Int := if mBit n r = 1 then n - 2 ^ r.toNat else n
theorem mSetB_i : ∀ n : Nat, n ≤ 15 → ∀ r : Nat, r ≤ 3 → iI (n : Int) ||| iI (2 ^ r) = iI (mSetB n r) ∧ 0 ≤ mSetB n r ∧ mSetB n r ≤ 15 := by decide +kernel
theorem mClrB_i : ∀ n : Nat, n ≤ 15 → ∀ r : Nat, r ≤ 3 → iI (n : Int) &&& (iI (2 ^ r) ^^^ iI (-1)) = iI (mClrB n r) ∧ 0 ≤ mClrB n r ∧ mClrB n r ≤ 15 := by decide +kernel
theorem mXor_i : ∀ r : Nat, r ≤ 3 → iI (2 ^ r) ^^^ iI (-1) = iI (-1 - 2 ^ r) := by decide +kernel
theorem mSetB_j {n r : Int} (hn : 0 ≤ n ∧ n ≤ 15) (hr : 0 ≤ r ∧ r ≤ 3) : iI n ||| iI (2 ^ r.toNat) = iI (mSetB n r) ∧ 0 ≤ mSetB n r ∧ mSetB n r ≤ 15 := by
  have h := mSetB_i n.toNat (by omega) r.toNat (by omega)
  rw [Int.toNat_of_nonneg hn.1, Int.toNat_of_nonneg hr.1] at h
  exact h
theorem mXor_j {r : Int} (hr : 0 ≤ r ∧ r ≤ 3) : iI (2 ^ r.toNat) ^^^ iI (-1) = iI (-1 - 2 ^ r.toNat) := mXor_i r.toNat (by omega)
theorem mClrB_j {n r : Int} (hn : 0 ≤ n ∧ n ≤ 15) (hr : 0 ≤ r ∧ r ≤ 3) : iI n &&& iI (-1 - 2 ^ r.toNat) = iI (mClrB n r) ∧ 0 ≤ mClrB n r ∧ mClrB n r ≤ 15 := by
  have h := mClrB_i n.toNat (by omega) r.toNat (by omega)
  rw [Int.toNat_of_nonneg hn.1, Int.toNat_of_nonneg hr.1, mXor_j hr] at h
  exact h
theorem mBit_b (n r : Int) : mBit n r = 0 ∨ mBit n r = 1 := by unfold mBit; omega
theorem mPop_t : ∀ a, a < 64 → ∀ b, b < 64 → 0 < 64 * a + b → mPop ((64 * a + b : Nat) : Int) = mPop (((64 * a + b) &&& (64 * a + b - 1) : Nat) : Int) + 1 := by decide +kernel
theorem mPop_s (n : Nat) (h : n < 4096) (h0 : 0 < n) : mPop n = mPop ((n &&& (n - 1) : Nat) : Int) + 1 := by
  have e := mPop_t (n / 64) (by omega) (n % 64) (by omega) (by omega)
  rwa [show 64 * (n / 64) + n % 64 = n by omega] at e
theorem mPop_0 : mPop 0 = 0 := by decide
theorem mPop_b {n : Int} : 0 ≤ mPop n ∧ mPop n ≤ 12 := by unfold mPop; omega
def mLow (n : Int) : Int := ((n.toNat &&& (n.toNat - 1) : Nat) : Int)
theorem mLow_i {n : Int} (h : 0 < n ∧ n < 4096) : iI n &&& iI (n - 1) = iI (mLow n) ∧ 0 ≤ mLow n ∧ mLow n < n ∧ mPop n = mPop (mLow n) + 1 := by
  have h1 := z_ones n.toNat (by omega) (by omega)
  have h2 := mPop_s n.toNat (by omega) (by omega)
  rw [Int.toNat_of_nonneg (by omega)] at h2
  refine ⟨?_, by unfold mLow; omega, by unfold mLow; omega, h2⟩
  rw [iI_to n (by omega), iI_to (n - 1) (by omega), show (n - 1).toNat = n.toNat - 1 by omega, h1.1, ← iI_nat]
  rfl

set_option maxRecDepth 20000 in
set_option maxHeartbeats 4000000 in
theorem c_X8_ones {l : Launch} {D : va_G} {Y : Nat → ClassId} {a : Int → Nat} (hI : zI a) (σ : zS) (bits : Int) (hb : 0 ≤ bits ∧ bits < 4096) : zMet l yX8_ones cX8_ones 3 (some .int) 0 (zPc D Y a σ [.int (iI bits)]) (zSi (mPop bits)) zNo := by
  refine z_start rfl (Nat.le_of_ble_eq_true rfl) hI ?_
  intro p e s m below meth c ls C hr hlocks hl hP
  have hl : lv_has ls 3 [(0, .int (iI bits))] := hl
  refine z_iconst C dX8_ones_0 ?_
  refine z_istore_n C [1, 0] [(0, .int (iI bits)), (1, .int (iI 0))] hl (by decide) rfl dX8_ones_1 (fun ls hl => ?_)
  refine z_iload_n C hl 0 rfl dX8_ones_2 ?_
  refine z_istore_n C [1, 2, 0] [(0, .int (iI bits)), (1, .int (iI 0)), (2, .int (iI bits))] hl (by decide) rfl dX8_ones_3 (fun ls hl => ?_)
  have L_4 : ∀ (n : Nat) (ct : Int) (lf : Int) (ls : Array Slot), (0 ≤ lf ∧ lf ≤ bits) → (ct + mPop lf = mPop bits) → (lf.toNat) < n → lv_has ls 3 [(0, .int (iI bits)), (1, .int (iI ct)), (2, .int (iI lf))] → W p l e (zR 0) s m ([.int (iI bits)] : List Value).toArray below meth c s.heap [] 0 0 (MQ below (zSi (mPop bits)) ([.int (iI bits)] : List Value).toArray s 0 0 zNo) (F0 m 4 ls []) := by
    intro n
    induction n with
    | zero =>
      intros; omega
    | succ n ih_4 =>
      intro ct lf ls il ic hm hl
      refine z_iload_n C hl 2 rfl dX8_ones_4 ?_
      refine z_if_eq C 20 dX8_ones_5 (by decide) ⟨by omega, by omega⟩ (fun c_5 => ?_) (fun c_5 => ?_)
      · refine z_iload_n C hl 1 rfl dX8_ones_20 ?_
        exact z_retSi C hr hlocks rfl (by rw [show lf = 0 from (by omega), mPop_0] at ic; omega) dX8_ones_21
      · refine z_iinc C 1 [1, 0, 2] [(0, .int (iI bits)), (1, .int (iI (ct + 1))), (2, .int (iI lf))] hl rfl (by decide) rfl dX8_ones_8 (fun ls hl => ?_)
        have hlo := mLow_i (n := lf) (by omega)
        have hpb := mPop_b (n := lf)
        refine z_iload_n C hl 2 rfl dX8_ones_11 ?_
        refine z_iload_n C hl 2 rfl dX8_ones_12 ?_
        refine z_iconst C dX8_ones_13 ?_
        refine z_isub C dX8_ones_14 ?_
        refine z_iand C (mLow lf) hlo.1 dX8_ones_15 ?_
        refine z_topi (fun x1 hx1 => ?_)
        refine z_istore_n C [1, 2, 0] [(0, .int (iI bits)), (1, .int (iI (ct + 1))), (2, .int (iI x1))] hl (by decide) rfl dX8_ones_16 (fun ls hl => ?_)
        rw [hx1] at hlo
        refine z_goto C 4 dX8_ones_17 (by decide) ?_
        exact ih_4 (ct + 1) x1 ls (by omega) (by omega) (by omega) (lv_sub hl [0, 1, 2] rfl)
  exact L_4 _ 0 bits ls (by omega) (by omega) (Nat.lt_succ_self _) (lv_sub hl [0, 1, 2] rfl)

set_option maxRecDepth 20000 in
set_option maxHeartbeats 4000000 in
theorem c_X8_isThere {l : Launch} {D : va_G} {Y : Nat → ClassId} {a : Int → Nat} (hI : zI a) (σ : zS) (rr : Int) (r1 : R3 rr) (hrb : 0 ≤ σ 100 0 ∧ σ 100 0 ≤ 15) : zMet l yX8_isThere cX8_isThere 2 (some .boolean) 2 (zPc D Y a σ [.ref (a 100), .int (iI rr)]) (zSi (if 0 ≤ rr ∧ rr ≤ 3 ∧ mBit (σ 100 0) rr = 1 then (1 : Int) else 0)) zNo := by
  refine z_start rfl (Nat.le_of_ble_eq_true rfl) hI ?_
  intro p e s m below meth c ls C hr hlocks hl hP
  have hl : lv_has ls 2 [(0, .ref (a 100)), (1, .int (iI rr))] := hl
  refine z_iload_n C hl 1 rfl dX8_isThere_0 ?_
  refine z_sSi C hP (As := [.int (iI rr)]) lk_X8_90 (c_X8_isNumber hI σ rr r1) rfl hl.1 rfl (Nat.le_of_ble_eq_true rfl) ⟨Nat.le_of_ble_eq_true rfl, Nat.le_of_ble_eq_true rfl⟩ ⟨Nat.zero_le _, Nat.zero_le _⟩ dX8_isThere_1 ?_
  by_cases b_1 : 0 ≤ rr ∧ rr ≤ 3
  · rw [show (if 0 ≤ rr ∧ rr ≤ 3 then (1 : Int) else 0) = 1 from if_pos b_1]
    refine z_ifF_eq C 23 dX8_isThere_4 (by decide) ⟨by decide, by decide⟩ (by decide) ?_
    refine z_aload_n C hl 0 rfl dX8_isThere_7 ?_
    refine zg_X8_94 C hP dX8_isThere_8 ?_
    refine z_iload_n C hl 1 rfl dX8_isThere_11 ?_
    have hsh : 0 ≤ σ 100 0 / 2 ^ rr.toNat ∧ σ 100 0 / 2 ^ rr.toNat ≤ 15 := ⟨Int.ediv_nonneg hrb.1 (Int.le_of_lt (Int.pow_pos (by omega))), Int.le_trans (Int.ediv_le_self _ hrb.1) hrb.2⟩
    refine z_ishr C (σ 100 0 / 2 ^ rr.toNat) (z_shrb ⟨by omega, by omega⟩ ⟨by omega, by omega⟩) dX8_isThere_12 ?_
    refine z_iconst C dX8_isThere_13 ?_
    refine z_iand C (mBit (σ 100 0) rr) (z_and1 ⟨by omega, by omega⟩) dX8_isThere_14 ?_
    refine z_iconst C dX8_isThere_15 ?_
    have hbb := mBit_b (σ 100 0) rr
    refine z_icmp_ne C 23 dX8_isThere_16 (by decide) ⟨by omega, by omega⟩ ⟨by omega, by omega⟩ (fun c_16 => ?_) (fun c_16 => ?_)
    · refine z_iconst C dX8_isThere_23 ?_
      exact z_retSi C hr hlocks (zNb (by first | omega | (split <;> omega))) (by first | rfl | (rw [if_pos (by omega)]) | (rw [if_neg (by omega)]) | omega) dX8_isThere_24
    · refine z_iconst C dX8_isThere_19 ?_
      refine z_goto C 24 dX8_isThere_20 (by decide) ?_
      exact z_retSi C hr hlocks (zNb (by first | omega | (split <;> omega))) (by first | rfl | (rw [if_pos (by omega)]) | (rw [if_neg (by omega)]) | omega) dX8_isThere_24
  · rw [show (if 0 ≤ rr ∧ rr ≤ 3 then (1 : Int) else 0) = 0 from if_neg b_1]
    refine z_ifT_eq C 23 dX8_isThere_4 (by decide) ⟨by decide, by decide⟩ (by decide) ?_
    refine z_iconst C dX8_isThere_23 ?_
    exact z_retSi C hr hlocks (zNb (by first | omega | (split <;> omega))) (by first | rfl | (rw [if_pos (by omega)]) | (rw [if_neg (by omega)]) | omega) dX8_isThere_24

def mComeM (σ : zS) (rr str lik w th : Int) : zS := zU (zU (zU (zU (zU σ 101 rr str) 102 rr lik) 103 rr w) 104 rr th) 100 0 (mSetB (σ 100 0) rr)
set_option maxRecDepth 20000 in
set_option maxHeartbeats 4000000 in
theorem c_X8_rider {l : Launch} {D : va_G} {Y : Nat → ClassId} {a : Int → Nat} (hI : zI a) (σ : zS) (rr str lik w th : Int) (hr1 : R3 rr) (hr2 : R3 str) (hr3 : R3 lik) (hr4 : R3 w) (hr5 : R3 th) (hrb : 0 ≤ σ 100 0 ∧ σ 100 0 ≤ 15) : zMet l yX8_rider cX8_rider 6 (some .int) 3 (zPc D Y a σ [.ref (a 100), .int (iI rr), .int (iI str), .int (iI lik), .int (iI w), .int (iI th)]) (zQi D Y a (fun r τ => if ¬ (0 ≤ rr ∧ rr ≤ 3) then r = -1 ∧ τ = σ else if ¬ (1 ≤ str ∧ str ≤ 20 ∧ 4 ≤ lik ∧ lik ≤ 10 ∧ 1 ≤ w ∧ w ≤ 9 ∧ 0 ≤ th ∧ th ≤ 50) then r = -2 ∧ τ = σ else τ = mComeM σ rr str lik w th ∧ r = mPop (mSetB (σ 100 0) rr))) (inA a) := by
  refine z_start rfl (Nat.le_of_ble_eq_true rfl) hI ?_
  intro p e s m below meth c ls C hr hlocks hl hP
  have hS : va_S (inA a) s.heap s.heap [] := va_S.rf
  have hl : lv_has ls 6 [(0, .ref (a 100)), (1, .int (iI rr)), (2, .int (iI str)), (3, .int (iI lik)), (4, .int (iI w)), (5, .int (iI th))] := hl
  skip
  refine z_iload_n C hl 1 rfl dX8_rider_0 ?_
  refine z_sSi C hP (As := [.int (iI rr)]) lk_X8_90 (c_X8_isNumber hI σ rr hr1) rfl hl.1 rfl (Nat.le_of_ble_eq_true rfl) ⟨Nat.le_of_ble_eq_true rfl, Nat.le_of_ble_eq_true rfl⟩ ⟨Nat.zero_le _, Nat.zero_le _⟩ dX8_rider_1 ?_
  by_cases b_1 : 0 ≤ rr ∧ rr ≤ 3
  · rw [show (if 0 ≤ rr ∧ rr ≤ 3 then (1 : Int) else 0) = 1 from if_pos b_1]
    refine z_ifT_ne C 9 dX8_rider_4 (by decide) ⟨by decide, by decide⟩ (by decide) ?_
    refine z_iload_n C hl 2 rfl dX8_rider_9 ?_
    refine z_i2l C ⟨by omega, by omega⟩ dX8_rider_10 ?_
    refine z_lconst C (z := 1) rfl dX8_rider_11 ?_
    refine z_ldc2 C (z := 20) wd_155 (by decide +kernel) dX8_rider_12 ?_
    refine z_sSi C hP (As := [.long (jI str), .long (jI 1), .long (jI 20)]) lk_X8_86 (c_X8_in hI σ str 1 20 ⟨by omega, by omega⟩ ⟨by decide, by decide⟩ ⟨by decide, by decide⟩) rfl hl.1 rfl (Nat.le_of_ble_eq_true rfl) ⟨Nat.le_of_ble_eq_true rfl, Nat.le_of_ble_eq_true rfl⟩ ⟨Nat.zero_le _, Nat.zero_le _⟩ dX8_rider_15 ?_
    by_cases b_15 : 1 ≤ str ∧ str ≤ 20
    · rw [show (if 1 ≤ str ∧ str ≤ 20 then (1 : Int) else 0) = 1 from if_pos b_15]
      refine z_ifF_eq C 54 dX8_rider_18 (by decide) ⟨by decide, by decide⟩ (by decide) ?_
      refine z_iload_n C hl 3 rfl dX8_rider_21 ?_
      refine z_sSi C hP (As := [.int (iI lik)]) lk_X8_99 (c_X8_isBeat hI σ lik hr3) rfl hl.1 rfl (Nat.le_of_ble_eq_true rfl) ⟨Nat.le_of_ble_eq_true rfl, Nat.le_of_ble_eq_true rfl⟩ ⟨Nat.zero_le _, Nat.zero_le _⟩ dX8_rider_22 ?_
      by_cases b_22 : 4 ≤ lik ∧ lik ≤ 10
      · rw [show (if 4 ≤ lik ∧ lik ≤ 10 then (1 : Int) else 0) = 1 from if_pos b_22]
        refine z_ifF_eq C 54 dX8_rider_25 (by decide) ⟨by decide, by decide⟩ (by decide) ?_
        refine z_iload C hl 4 rfl dX8_rider_28 ?_
        refine z_i2l C ⟨by omega, by omega⟩ dX8_rider_30 ?_
        refine z_lconst C (z := 1) rfl dX8_rider_31 ?_
        refine z_ldc2 C (z := 9) wd_156 (by decide +kernel) dX8_rider_32 ?_
        refine z_sSi C hP (As := [.long (jI w), .long (jI 1), .long (jI 9)]) lk_X8_86 (c_X8_in hI σ w 1 9 ⟨by omega, by omega⟩ ⟨by decide, by decide⟩ ⟨by decide, by decide⟩) rfl hl.1 rfl (Nat.le_of_ble_eq_true rfl) ⟨Nat.le_of_ble_eq_true rfl, Nat.le_of_ble_eq_true rfl⟩ ⟨Nat.zero_le _, Nat.zero_le _⟩ dX8_rider_35 ?_
        by_cases b_35 : 1 ≤ w ∧ w ≤ 9
        · rw [show (if 1 ≤ w ∧ w ≤ 9 then (1 : Int) else 0) = 1 from if_pos b_35]
          refine z_ifF_eq C 54 dX8_rider_38 (by decide) ⟨by decide, by decide⟩ (by decide) ?_
          refine z_iload C hl 5 rfl dX8_rider_41 ?_
          refine z_i2l C ⟨by omega, by omega⟩ dX8_rider_43 ?_
          refine z_lconst C (z := 0) rfl dX8_rider_44 ?_
          refine z_ldc2 C (z := 50) wd_157 (by decide +kernel) dX8_rider_45 ?_
          refine z_sSi C hP (As := [.long (jI th), .long (jI 0), .long (jI 50)]) lk_X8_86 (c_X8_in hI σ th 0 50 ⟨by omega, by omega⟩ ⟨by decide, by decide⟩ ⟨by decide, by decide⟩) rfl hl.1 rfl (Nat.le_of_ble_eq_true rfl) ⟨Nat.le_of_ble_eq_true rfl, Nat.le_of_ble_eq_true rfl⟩ ⟨Nat.zero_le _, Nat.zero_le _⟩ dX8_rider_48 ?_
          by_cases b_48 : 0 ≤ th ∧ th ≤ 50
          · rw [show (if 0 ≤ th ∧ th ≤ 50 then (1 : Int) else 0) = 1 from if_pos b_48]
            refine z_ifT_ne C 57 dX8_rider_51 (by decide) ⟨by decide, by decide⟩ (by decide) ?_
            refine z_aload_n C hl 0 rfl dX8_rider_57 ?_
            refine zg_X8_7 C hP dX8_rider_58 ?_
            refine z_iload_n C hl 1 rfl dX8_rider_61 ?_
            refine z_iload_n C hl 2 rfl dX8_rider_62 ?_
            refine z_iast C hP hS ia_101 ⟨by omega, by omega⟩ dX8_rider_63 (fun H locs hP hS => ?_)
            obtain ⟨t1, et1⟩ : ∃ z : zS, z = zU σ 101 rr str := ⟨_, rfl⟩
            rw [← et1] at hP
            refine z_aload_n C hl 0 rfl dX8_rider_64 ?_
            refine zg_X8_13 C hP dX8_rider_65 ?_
            refine z_iload_n C hl 1 rfl dX8_rider_68 ?_
            refine z_iload_n C hl 3 rfl dX8_rider_69 ?_
            refine z_iast C hP hS ia_102 ⟨by omega, by omega⟩ dX8_rider_70 (fun H locs hP hS => ?_)
            obtain ⟨t2, et2⟩ : ∃ z : zS, z = zU t1 102 rr lik := ⟨_, rfl⟩
            rw [← et2] at hP
            refine z_aload_n C hl 0 rfl dX8_rider_71 ?_
            refine zg_X8_16 C hP dX8_rider_72 ?_
            refine z_iload_n C hl 1 rfl dX8_rider_75 ?_
            refine z_iload C hl 4 rfl dX8_rider_76 ?_
            refine z_iast C hP hS ia_103 ⟨by omega, by omega⟩ dX8_rider_78 (fun H locs hP hS => ?_)
            obtain ⟨t3, et3⟩ : ∃ z : zS, z = zU t2 103 rr w := ⟨_, rfl⟩
            rw [← et3] at hP
            refine z_aload_n C hl 0 rfl dX8_rider_79 ?_
            refine zg_X8_19 C hP dX8_rider_80 ?_
            refine z_iload_n C hl 1 rfl dX8_rider_83 ?_
            refine z_iload C hl 5 rfl dX8_rider_84 ?_
            refine z_iast C hP hS ia_104 ⟨by omega, by omega⟩ dX8_rider_86 (fun H locs hP hS => ?_)
            obtain ⟨t4, et4⟩ : ∃ z : zS, z = zU t3 104 rr th := ⟨_, rfl⟩
            rw [← et4] at hP
            refine z_aload_n C hl 0 rfl dX8_rider_87 ?_
            refine z_dup C rfl dX8_rider_88 ?_
            refine zg_X8_94 C hP dX8_rider_89 ?_
            rw [show t4 100 0 = σ 100 0 from by rw [et4, zU_cell (by decide), et3, zU_cell (by decide), et2, zU_cell (by decide), et1, zU_cell (by decide)]]
            refine z_iconst C dX8_rider_92 ?_
            refine z_iload_n C hl 1 rfl dX8_rider_93 ?_
            have hsb := mSetB_j hrb (r := rr) (by omega)
            refine z_ishl C (2 ^ rr.toNat) (z_shl1 ⟨by omega, by omega⟩) dX8_rider_94 ?_
            refine z_ior C (mSetB (σ 100 0) rr) hsb.1 dX8_rider_95 ?_
            refine zp_X8_94 C hP hS dX8_rider_96 (fun H locs hP hS => ?_)
            obtain ⟨t5, et5⟩ : ∃ z : zS, z = zU t4 100 0 (mSetB (σ 100 0) rr) := ⟨_, rfl⟩
            rw [← et5] at hP
            refine z_aload_n C hl 0 rfl dX8_rider_99 ?_
            refine zg_X8_94 C hP dX8_rider_100 ?_
            rw [show t5 100 0 = mSetB (σ 100 0) rr from by rw [et5, zU_same]]
            refine z_sSi C hP (As := [.int (iI (mSetB (σ 100 0) rr))]) lk_X8_106 (c_X8_ones hI t5 (mSetB (σ 100 0) rr) (by omega)) rfl hl.1 rfl (Nat.le_of_ble_eq_true rfl) ⟨Nat.le_of_ble_eq_true rfl, Nat.le_of_ble_eq_true rfl⟩ ⟨Nat.zero_le _, Nat.zero_le _⟩ dX8_rider_103 ?_
            exact z_retQi C hP hS hr hlocks rfl (by subst_vars; (repeat' split) <;> first | (exfalso; omega) | exact ⟨rfl, rfl⟩) dX8_rider_106
          · rw [show (if 0 ≤ th ∧ th ≤ 50 then (1 : Int) else 0) = 0 from if_neg b_48]
            refine z_ifF_ne C 57 dX8_rider_51 (by decide) ⟨by decide, by decide⟩ (by decide) ?_
            refine z_bipush C (by decide +kernel) dX8_rider_54 ?_
            exact z_retQi C hP hS hr hlocks rfl (by subst_vars; (repeat' split) <;> first | (exfalso; omega) | exact ⟨rfl, rfl⟩) dX8_rider_56
        · rw [show (if 1 ≤ w ∧ w ≤ 9 then (1 : Int) else 0) = 0 from if_neg b_35]
          refine z_ifT_eq C 54 dX8_rider_38 (by decide) ⟨by decide, by decide⟩ (by decide) ?_
          refine z_bipush C (by decide +kernel) dX8_rider_54 ?_
          exact z_retQi C hP hS hr hlocks rfl (by subst_vars; (repeat' split) <;> first | (exfalso; omega) | exact ⟨rfl, rfl⟩) dX8_rider_56
      · rw [show (if 4 ≤ lik ∧ lik ≤ 10 then (1 : Int) else 0) = 0 from if_neg b_22]
        refine z_ifT_eq C 54 dX8_rider_25 (by decide) ⟨by decide, by decide⟩ (by decide) ?_
        refine z_bipush C (by decide +kernel) dX8_rider_54 ?_
        exact z_retQi C hP hS hr hlocks rfl (by subst_vars; (repeat' split) <;> first | (exfalso; omega) | exact ⟨rfl, rfl⟩) dX8_rider_56
    · rw [show (if 1 ≤ str ∧ str ≤ 20 then (1 : Int) else 0) = 0 from if_neg b_15]
      refine z_ifT_eq C 54 dX8_rider_18 (by decide) ⟨by decide, by decide⟩ (by decide) ?_
      refine z_bipush C (by decide +kernel) dX8_rider_54 ?_
      exact z_retQi C hP hS hr hlocks rfl (by subst_vars; (repeat' split) <;> first | (exfalso; omega) | exact ⟨rfl, rfl⟩) dX8_rider_56
  · rw [show (if 0 ≤ rr ∧ rr ≤ 3 then (1 : Int) else 0) = 0 from if_neg b_1]
    refine z_ifF_ne C 9 dX8_rider_4 (by decide) ⟨by decide, by decide⟩ (by decide) ?_
    refine z_iconst C dX8_rider_7 ?_
    exact z_retQi C hP hS hr hlocks rfl (by subst_vars; (repeat' split) <;> first | (exfalso; omega) | exact ⟨rfl, rfl⟩) dX8_rider_8

set_option maxRecDepth 20000 in
set_option maxHeartbeats 4000000 in
theorem c_X8_leave {l : Launch} {D : va_G} {Y : Nat → ClassId} {a : Int → Nat} (hI : zI a) (σ : zS) (rr : Int) (hr1 : R3 rr) (hrb : 0 ≤ σ 100 0 ∧ σ 100 0 ≤ 15) : zMet l yX8_leave cX8_leave 2 (some .int) 3 (zPc D Y a σ [.ref (a 100), .int (iI rr)]) (zQi D Y a (fun r τ => if ¬ (0 ≤ rr ∧ rr ≤ 3 ∧ mBit (σ 100 0) rr = 1) then r = -1 ∧ τ = σ else τ = zU σ 100 0 (mClrB (σ 100 0) rr) ∧ r = mPop (mClrB (σ 100 0) rr))) (inA a) := by
  refine z_start rfl (Nat.le_of_ble_eq_true rfl) hI ?_
  intro p e s m below meth c ls C hr hlocks hl hP
  have hS : va_S (inA a) s.heap s.heap [] := va_S.rf
  have hl : lv_has ls 2 [(0, .ref (a 100)), (1, .int (iI rr))] := hl
  skip
  refine z_aload_n C hl 0 rfl dX8_leave_0 ?_
  refine z_iload_n C hl 1 rfl dX8_leave_1 ?_
  refine z_vSi C hP (As := [.int (iI rr)]) lk_X8_110 (c_X8_isThere hI σ rr hr1 hrb) ob_100 rfl rfl rfl hl.1 rfl (Nat.le_of_ble_eq_true rfl) ⟨Nat.le_of_ble_eq_true rfl, Nat.le_of_ble_eq_true rfl⟩ ⟨Nat.zero_le _, Nat.zero_le _⟩ dX8_leave_2 ?_
  by_cases b_2 : 0 ≤ rr ∧ rr ≤ 3 ∧ mBit (σ 100 0) rr = 1
  · rw [show (if 0 ≤ rr ∧ rr ≤ 3 ∧ mBit (σ 100 0) rr = 1 then (1 : Int) else 0) = 1 from if_pos b_2]
    refine z_ifT_ne C 10 dX8_leave_5 (by decide) ⟨by decide, by decide⟩ (by decide) ?_
    refine z_aload_n C hl 0 rfl dX8_leave_10 ?_
    refine z_dup C rfl dX8_leave_11 ?_
    refine zg_X8_94 C hP dX8_leave_12 ?_
    refine z_iconst C dX8_leave_15 ?_
    refine z_iload_n C hl 1 rfl dX8_leave_16 ?_
    have hcb := mClrB_j hrb (r := rr) (by omega)
    refine z_ishl C (2 ^ rr.toNat) (z_shl1 ⟨by omega, by omega⟩) dX8_leave_17 ?_
    refine z_iconst C dX8_leave_18 ?_
    refine z_ixor C (-1 - 2 ^ rr.toNat) (mXor_j ⟨by omega, by omega⟩) dX8_leave_19 ?_
    refine z_iand C (mClrB (σ 100 0) rr) hcb.1 dX8_leave_20 ?_
    refine zp_X8_94 C hP hS dX8_leave_21 (fun H locs hP hS => ?_)
    obtain ⟨t1, et1⟩ : ∃ z : zS, z = zU σ 100 0 (mClrB (σ 100 0) rr) := ⟨_, rfl⟩
    rw [← et1] at hP
    refine z_aload_n C hl 0 rfl dX8_leave_24 ?_
    refine zg_X8_94 C hP dX8_leave_25 ?_
    rw [show t1 100 0 = mClrB (σ 100 0) rr from by rw [et1, zU_same]]
    refine z_sSi C hP (As := [.int (iI (mClrB (σ 100 0) rr))]) lk_X8_106 (c_X8_ones hI t1 (mClrB (σ 100 0) rr) (by omega)) rfl hl.1 rfl (Nat.le_of_ble_eq_true rfl) ⟨Nat.le_of_ble_eq_true rfl, Nat.le_of_ble_eq_true rfl⟩ ⟨Nat.zero_le _, Nat.zero_le _⟩ dX8_leave_28 ?_
    exact z_retQi C hP hS hr hlocks rfl (by subst_vars; (repeat' split) <;> first | (exfalso; omega) | exact ⟨rfl, rfl⟩) dX8_leave_31
  · rw [show (if 0 ≤ rr ∧ rr ≤ 3 ∧ mBit (σ 100 0) rr = 1 then (1 : Int) else 0) = 0 from if_neg b_2]
    refine z_ifF_ne C 10 dX8_leave_5 (by decide) ⟨by decide, by decide⟩ (by decide) ?_
    refine z_iconst C dX8_leave_8 ?_
    exact z_retQi C hP hS hr hlocks rfl (by subst_vars; (repeat' split) <;> first | (exfalso; omega) | exact ⟨rfl, rfl⟩) dX8_leave_9

set_option maxRecDepth 20000 in
set_option maxHeartbeats 4000000 in
theorem c_X8_seat {l : Launch} {D : va_G} {Y : Nat → ClassId} {a : Int → Nat} (hI : zI a) (σ : zS) (f b : Int) (hr1 : R3 f) (hr2 : R3 b) (hrb : 0 ≤ σ 100 0 ∧ σ 100 0 ≤ 15) : zMet l yX8_seat cX8_seat 3 (some .int) 3 (zPc D Y a σ [.ref (a 100), .int (iI f), .int (iI b)]) (zQi D Y a (fun r τ => if ¬ ((0 ≤ f ∧ f ≤ 3 ∧ mBit (σ 100 0) f = 1) ∧ (0 ≤ b ∧ b ≤ 3 ∧ mBit (σ 100 0) b = 1) ∧ f ≠ b) then r = -1 ∧ τ = σ else τ = zU (zU σ 100 5 f) 100 6 b ∧ r = 1)) (inA a) := by
  refine z_start rfl (Nat.le_of_ble_eq_true rfl) hI ?_
  intro p e s m below meth c ls C hr hlocks hl hP
  have hS : va_S (inA a) s.heap s.heap [] := va_S.rf
  have hl : lv_has ls 3 [(0, .ref (a 100)), (1, .int (iI f)), (2, .int (iI b))] := hl
  skip
  refine z_aload_n C hl 0 rfl dX8_seat_0 ?_
  refine z_iload_n C hl 1 rfl dX8_seat_1 ?_
  refine z_vSi C hP (As := [.int (iI f)]) lk_X8_110 (c_X8_isThere hI σ f hr1 hrb) ob_100 rfl rfl rfl hl.1 rfl (Nat.le_of_ble_eq_true rfl) ⟨Nat.le_of_ble_eq_true rfl, Nat.le_of_ble_eq_true rfl⟩ ⟨Nat.zero_le _, Nat.zero_le _⟩ dX8_seat_2 ?_
  by_cases b_2 : 0 ≤ f ∧ f ≤ 3 ∧ mBit (σ 100 0) f = 1
  · rw [show (if 0 ≤ f ∧ f ≤ 3 ∧ mBit (σ 100 0) f = 1 then (1 : Int) else 0) = 1 from if_pos b_2]
    refine z_ifF_eq C 21 dX8_seat_5 (by decide) ⟨by decide, by decide⟩ (by decide) ?_
    refine z_aload_n C hl 0 rfl dX8_seat_8 ?_
    refine z_iload_n C hl 2 rfl dX8_seat_9 ?_
    refine z_vSi C hP (As := [.int (iI b)]) lk_X8_110 (c_X8_isThere hI σ b hr2 hrb) ob_100 rfl rfl rfl hl.1 rfl (Nat.le_of_ble_eq_true rfl) ⟨Nat.le_of_ble_eq_true rfl, Nat.le_of_ble_eq_true rfl⟩ ⟨Nat.zero_le _, Nat.zero_le _⟩ dX8_seat_10 ?_
    by_cases b_10 : 0 ≤ b ∧ b ≤ 3 ∧ mBit (σ 100 0) b = 1
    · rw [show (if 0 ≤ b ∧ b ≤ 3 ∧ mBit (σ 100 0) b = 1 then (1 : Int) else 0) = 1 from if_pos b_10]
      refine z_ifF_eq C 21 dX8_seat_13 (by decide) ⟨by decide, by decide⟩ (by decide) ?_
      refine z_iload_n C hl 1 rfl dX8_seat_16 ?_
      refine z_iload_n C hl 2 rfl dX8_seat_17 ?_
      refine z_icmp_ne C 23 dX8_seat_18 (by decide) ⟨by omega, by omega⟩ ⟨by omega, by omega⟩ (fun c_18 => ?_) (fun c_18 => ?_)
      · refine z_aload_n C hl 0 rfl dX8_seat_23 ?_
        refine z_iload_n C hl 1 rfl dX8_seat_24 ?_
        refine zp_X8_113 C hP hS dX8_seat_25 (fun H locs hP hS => ?_)
        obtain ⟨t1, et1⟩ : ∃ z : zS, z = zU σ 100 5 f := ⟨_, rfl⟩
        rw [← et1] at hP
        refine z_aload_n C hl 0 rfl dX8_seat_28 ?_
        refine z_iload_n C hl 2 rfl dX8_seat_29 ?_
        refine zp_X8_68 C hP hS dX8_seat_30 (fun H locs hP hS => ?_)
        obtain ⟨t2, et2⟩ : ∃ z : zS, z = zU t1 100 6 b := ⟨_, rfl⟩
        rw [← et2] at hP
        refine z_iconst C dX8_seat_33 ?_
        exact z_retQi C hP hS hr hlocks rfl (by subst_vars; (repeat' split) <;> first | (exfalso; omega) | exact ⟨rfl, rfl⟩) dX8_seat_34
      · refine z_iconst C dX8_seat_21 ?_
        exact z_retQi C hP hS hr hlocks rfl (by subst_vars; (repeat' split) <;> first | (exfalso; omega) | exact ⟨rfl, rfl⟩) dX8_seat_22
    · rw [show (if 0 ≤ b ∧ b ≤ 3 ∧ mBit (σ 100 0) b = 1 then (1 : Int) else 0) = 0 from if_neg b_10]
      refine z_ifT_eq C 21 dX8_seat_13 (by decide) ⟨by decide, by decide⟩ (by decide) ?_
      refine z_iconst C dX8_seat_21 ?_
      exact z_retQi C hP hS hr hlocks rfl (by subst_vars; (repeat' split) <;> first | (exfalso; omega) | exact ⟨rfl, rfl⟩) dX8_seat_22
  · rw [show (if 0 ≤ f ∧ f ≤ 3 ∧ mBit (σ 100 0) f = 1 then (1 : Int) else 0) = 0 from if_neg b_2]
    refine z_ifT_eq C 21 dX8_seat_5 (by decide) ⟨by decide, by decide⟩ (by decide) ?_
    refine z_iconst C dX8_seat_21 ?_
    exact z_retQi C hP hS hr hlocks rfl (by subst_vars; (repeat' split) <;> first | (exfalso; omega) | exact ⟨rfl, rfl⟩) dX8_seat_22

set_option maxRecDepth 20000 in
set_option maxHeartbeats 4000000 in
theorem c_X8_set_0 {l : Launch} {D : va_G} {Y : Nat → ClassId} {a : Int → Nat} (hI : zI a) (σ : zS) (v : Int) (hr2 : R3 v) : zMet l yX8_set cX8_set 5 (some .int) 1 (zPc D Y a σ [.ref (a 100), .int (iI 0), .int (iI v)]) (zQi D Y a (fun r τ => (¬ (5 ≤ v ∧ v ≤ 20) → r = -2 ∧ τ = σ) ∧ (5 ≤ v ∧ v ≤ 20 → (∀ k j : Int, ¬ (k = 100 ∧ j = 7) → τ k j = σ k j) ∧ τ 100 7 = v ∧ r = σ 100 7))) (inA a) := by
  refine z_start rfl (Nat.le_of_ble_eq_true rfl) hI ?_
  intro p e s m below meth c ls C hr hlocks hl hP
  have hS : va_S (inA a) s.heap s.heap [] := va_S.rf
  have hl : lv_has ls 5 [(0, .ref (a 100)), (1, .int (iI 0)), (2, .int (iI v))] := hl
  skip
  refine z_iload_n C hl 1 rfl dX8_set_0 ?_
  refine z_ifF_ne C 18 dX8_set_1 (by decide) ⟨by decide, by decide⟩ (by decide) ?_
  refine z_iload_n C hl 2 rfl dX8_set_4 ?_
  refine z_i2l C ⟨by omega, by omega⟩ dX8_set_5 ?_
  refine z_ldc2 C (z := 5) wd_213 (by decide +kernel) dX8_set_6 ?_
  refine z_ldc2 C (z := 20) wd_155 (by decide +kernel) dX8_set_9 ?_
  refine z_sSi C hP (As := [.long (jI v), .long (jI 5), .long (jI 20)]) lk_X8_86 (c_X8_in hI σ v 5 20 ⟨by omega, by omega⟩ ⟨by decide, by decide⟩ ⟨by decide, by decide⟩) rfl hl.1 rfl (Nat.le_of_ble_eq_true rfl) ⟨Nat.le_of_ble_eq_true rfl, Nat.le_of_ble_eq_true rfl⟩ ⟨Nat.zero_le _, Nat.zero_le _⟩ dX8_set_12 ?_
  by_cases b_12 : 5 ≤ v ∧ v ≤ 20
  · rw [show (if 5 ≤ v ∧ v ≤ 20 then (1 : Int) else 0) = 1 from if_pos b_12]
    refine z_goto C 57 dX8_set_15 (by decide) ?_
    refine z_istore_n C [1, 2, 3, 0] [(0, .ref (a 100)), (1, .int (iI 0)), (2, .int (iI v)), (3, .int (iI 1))] hl (by decide) rfl dX8_set_57 (fun ls hl => ?_)
    refine z_iload_n C hl 3 rfl dX8_set_58 ?_
    refine z_ifT_ne C 65 dX8_set_59 (by decide) ⟨by decide, by decide⟩ (by decide) ?_
    refine z_iload_n C hl 1 rfl dX8_set_65 ?_
    refine z_ifF_ne C 76 dX8_set_66 (by decide) ⟨by decide, by decide⟩ (by decide) ?_
    refine z_aload_n C hl 0 rfl dX8_set_69 ?_
    refine zg_X8_72 C hP dX8_set_70 ?_
    refine z_goto C 92 dX8_set_73 (by decide) ?_
    refine z_topi (fun x1 hx1 => ?_)
    refine z_istore C [1, 2, 3, 4, 0] [(0, .ref (a 100)), (1, .int (iI 0)), (2, .int (iI v)), (3, .int (iI 1)), (4, .int (iI x1))] hl (by decide) rfl dX8_set_92 (fun ls hl => ?_)
    refine z_aload_n C hl 0 rfl dX8_set_94 ?_
    refine z_iload_n C hl 1 rfl dX8_set_95 ?_
    refine z_ifF_ne C 103 dX8_set_96 (by decide) ⟨by decide, by decide⟩ (by decide) ?_
    refine z_iload_n C hl 2 rfl dX8_set_99 ?_
    refine z_goto C 107 dX8_set_100 (by decide) ?_
    refine zp_X8_72 C hP hS dX8_set_107 (fun H locs hP hS => ?_)
    obtain ⟨t2, et2⟩ : ∃ z : zS, z = zU σ 100 7 v := ⟨_, rfl⟩
    rw [← et2] at hP
    refine z_aload_n C hl 0 rfl dX8_set_110 ?_
    refine z_iload_n C hl 1 rfl dX8_set_111 ?_
    refine z_iconst C dX8_set_112 ?_
    refine z_icmpT_ne C 120 dX8_set_113 (by decide) ⟨by decide, by decide⟩ ⟨by decide, by decide⟩ (by decide) ?_
    refine z_aload_n C hl 0 rfl dX8_set_120 ?_
    refine zg_X8_75 C hP dX8_set_121 ?_
    rw [show t2 100 8 = σ 100 8 from by rw [et2, zU_place (by decide)]]
    refine zp_X8_75 C hP hS dX8_set_124 (fun H locs hP hS => ?_)
    obtain ⟨t3, et3⟩ : ∃ z : zS, z = zU t2 100 8 (σ 100 8) := ⟨_, rfl⟩
    rw [← et3] at hP
    refine z_aload_n C hl 0 rfl dX8_set_127 ?_
    refine z_iload_n C hl 1 rfl dX8_set_128 ?_
    refine z_iconst C dX8_set_129 ?_
    refine z_icmpT_ne C 137 dX8_set_130 (by decide) ⟨by decide, by decide⟩ ⟨by decide, by decide⟩ (by decide) ?_
    refine z_aload_n C hl 0 rfl dX8_set_137 ?_
    refine zg_X8_78 C hP dX8_set_138 ?_
    rw [show t3 100 9 = σ 100 9 from by rw [et3, zU_place (by decide), et2, zU_place (by decide)]]
    refine zp_X8_78 C hP hS dX8_set_141 (fun H locs hP hS => ?_)
    obtain ⟨t4, et4⟩ : ∃ z : zS, z = zU t3 100 9 (σ 100 9) := ⟨_, rfl⟩
    rw [← et4] at hP
    refine z_iload C hl 4 rfl dX8_set_144 ?_
    exact z_retQi C hP hS hr hlocks rfl (by first | exact ⟨fun _ => ⟨rfl, rfl⟩, fun h => (by exfalso; omega)⟩ | (subst_vars; exact ⟨fun h => (by exfalso; omega), fun _ => ⟨fun k j h => (by unfold zU; (repeat' split) <;> first | rfl | (rename_i q; obtain ⟨rfl, rfl⟩ := q; first | rfl | exact absurd ⟨rfl, rfl⟩ h)), by simp [zU], rfl⟩⟩)) dX8_set_146
  · rw [show (if 5 ≤ v ∧ v ≤ 20 then (1 : Int) else 0) = 0 from if_neg b_12]
    refine z_goto C 57 dX8_set_15 (by decide) ?_
    refine z_istore_n C [1, 2, 3, 0] [(0, .ref (a 100)), (1, .int (iI 0)), (2, .int (iI v)), (3, .int (iI 0))] hl (by decide) rfl dX8_set_57 (fun ls hl => ?_)
    refine z_iload_n C hl 3 rfl dX8_set_58 ?_
    refine z_ifF_ne C 65 dX8_set_59 (by decide) ⟨by decide, by decide⟩ (by decide) ?_
    refine z_bipush C (by decide +kernel) dX8_set_62 ?_
    exact z_retQi C hP hS hr hlocks rfl (by first | exact ⟨fun _ => ⟨rfl, rfl⟩, fun h => (by exfalso; omega)⟩ | (subst_vars; exact ⟨fun h => (by exfalso; omega), fun _ => ⟨fun k j h => (by unfold zU; (repeat' split) <;> first | rfl | (rename_i q; obtain ⟨rfl, rfl⟩ := q; first | rfl | exact absurd ⟨rfl, rfl⟩ h)), by simp [zU], rfl⟩⟩)) dX8_set_64

set_option maxRecDepth 20000 in
set_option maxHeartbeats 4000000 in
theorem c_X8_set_1 {l : Launch} {D : va_G} {Y : Nat → ClassId} {a : Int → Nat} (hI : zI a) (σ : zS) (v : Int) (hr2 : R3 v) : zMet l yX8_set cX8_set 5 (some .int) 1 (zPc D Y a σ [.ref (a 100), .int (iI 1), .int (iI v)]) (zQi D Y a (fun r τ => (¬ (0 ≤ v ∧ v ≤ 99) → r = -2 ∧ τ = σ) ∧ (0 ≤ v ∧ v ≤ 99 → (∀ k j : Int, ¬ (k = 100 ∧ j = 8) → τ k j = σ k j) ∧ τ 100 8 = v ∧ r = σ 100 8))) (inA a) := by
  refine z_start rfl (Nat.le_of_ble_eq_true rfl) hI ?_
  intro p e s m below meth c ls C hr hlocks hl hP
  have hS : va_S (inA a) s.heap s.heap [] := va_S.rf
  have hl : lv_has ls 5 [(0, .ref (a 100)), (1, .int (iI 1)), (2, .int (iI v))] := hl
  skip
  refine z_iload_n C hl 1 rfl dX8_set_0 ?_
  refine z_ifT_ne C 18 dX8_set_1 (by decide) ⟨by decide, by decide⟩ (by decide) ?_
  refine z_iload_n C hl 1 rfl dX8_set_18 ?_
  refine z_iconst C dX8_set_19 ?_
  refine z_icmpF_ne C 35 dX8_set_20 (by decide) ⟨by decide, by decide⟩ ⟨by decide, by decide⟩ (by decide) ?_
  refine z_iload_n C hl 2 rfl dX8_set_23 ?_
  refine z_i2l C ⟨by omega, by omega⟩ dX8_set_24 ?_
  refine z_lconst C (z := 0) rfl dX8_set_25 ?_
  refine z_ldc2 C (z := 99) wd_214 (by decide +kernel) dX8_set_26 ?_
  refine z_sSi C hP (As := [.long (jI v), .long (jI 0), .long (jI 99)]) lk_X8_86 (c_X8_in hI σ v 0 99 ⟨by omega, by omega⟩ ⟨by decide, by decide⟩ ⟨by decide, by decide⟩) rfl hl.1 rfl (Nat.le_of_ble_eq_true rfl) ⟨Nat.le_of_ble_eq_true rfl, Nat.le_of_ble_eq_true rfl⟩ ⟨Nat.zero_le _, Nat.zero_le _⟩ dX8_set_29 ?_
  by_cases b_29 : 0 ≤ v ∧ v ≤ 99
  · rw [show (if 0 ≤ v ∧ v ≤ 99 then (1 : Int) else 0) = 1 from if_pos b_29]
    refine z_goto C 57 dX8_set_32 (by decide) ?_
    refine z_istore_n C [1, 2, 3, 0] [(0, .ref (a 100)), (1, .int (iI 1)), (2, .int (iI v)), (3, .int (iI 1))] hl (by decide) rfl dX8_set_57 (fun ls hl => ?_)
    refine z_iload_n C hl 3 rfl dX8_set_58 ?_
    refine z_ifT_ne C 65 dX8_set_59 (by decide) ⟨by decide, by decide⟩ (by decide) ?_
    refine z_iload_n C hl 1 rfl dX8_set_65 ?_
    refine z_ifT_ne C 76 dX8_set_66 (by decide) ⟨by decide, by decide⟩ (by decide) ?_
    refine z_iload_n C hl 1 rfl dX8_set_76 ?_
    refine z_iconst C dX8_set_77 ?_
    refine z_icmpF_ne C 88 dX8_set_78 (by decide) ⟨by decide, by decide⟩ ⟨by decide, by decide⟩ (by decide) ?_
    refine z_aload_n C hl 0 rfl dX8_set_81 ?_
    refine zg_X8_75 C hP dX8_set_82 ?_
    refine z_goto C 92 dX8_set_85 (by decide) ?_
    refine z_topi (fun x1 hx1 => ?_)
    refine z_istore C [1, 2, 3, 4, 0] [(0, .ref (a 100)), (1, .int (iI 1)), (2, .int (iI v)), (3, .int (iI 1)), (4, .int (iI x1))] hl (by decide) rfl dX8_set_92 (fun ls hl => ?_)
    refine z_aload_n C hl 0 rfl dX8_set_94 ?_
    refine z_iload_n C hl 1 rfl dX8_set_95 ?_
    refine z_ifT_ne C 103 dX8_set_96 (by decide) ⟨by decide, by decide⟩ (by decide) ?_
    refine z_aload_n C hl 0 rfl dX8_set_103 ?_
    refine zg_X8_72 C hP dX8_set_104 ?_
    refine zp_X8_72 C hP hS dX8_set_107 (fun H locs hP hS => ?_)
    obtain ⟨t2, et2⟩ : ∃ z : zS, z = zU σ 100 7 (σ 100 7) := ⟨_, rfl⟩
    rw [← et2] at hP
    refine z_aload_n C hl 0 rfl dX8_set_110 ?_
    refine z_iload_n C hl 1 rfl dX8_set_111 ?_
    refine z_iconst C dX8_set_112 ?_
    refine z_icmpF_ne C 120 dX8_set_113 (by decide) ⟨by decide, by decide⟩ ⟨by decide, by decide⟩ (by decide) ?_
    refine z_iload_n C hl 2 rfl dX8_set_116 ?_
    refine z_goto C 124 dX8_set_117 (by decide) ?_
    refine zp_X8_75 C hP hS dX8_set_124 (fun H locs hP hS => ?_)
    obtain ⟨t3, et3⟩ : ∃ z : zS, z = zU t2 100 8 v := ⟨_, rfl⟩
    rw [← et3] at hP
    refine z_aload_n C hl 0 rfl dX8_set_127 ?_
    refine z_iload_n C hl 1 rfl dX8_set_128 ?_
    refine z_iconst C dX8_set_129 ?_
    refine z_icmpT_ne C 137 dX8_set_130 (by decide) ⟨by decide, by decide⟩ ⟨by decide, by decide⟩ (by decide) ?_
    refine z_aload_n C hl 0 rfl dX8_set_137 ?_
    refine zg_X8_78 C hP dX8_set_138 ?_
    rw [show t3 100 9 = σ 100 9 from by rw [et3, zU_place (by decide), et2, zU_place (by decide)]]
    refine zp_X8_78 C hP hS dX8_set_141 (fun H locs hP hS => ?_)
    obtain ⟨t4, et4⟩ : ∃ z : zS, z = zU t3 100 9 (σ 100 9) := ⟨_, rfl⟩
    rw [← et4] at hP
    refine z_iload C hl 4 rfl dX8_set_144 ?_
    exact z_retQi C hP hS hr hlocks rfl (by first | exact ⟨fun _ => ⟨rfl, rfl⟩, fun h => (by exfalso; omega)⟩ | (subst_vars; exact ⟨fun h => (by exfalso; omega), fun _ => ⟨fun k j h => (by unfold zU; (repeat' split) <;> first | rfl | (rename_i q; obtain ⟨rfl, rfl⟩ := q; first | rfl | exact absurd ⟨rfl, rfl⟩ h)), by simp [zU], rfl⟩⟩)) dX8_set_146
  · rw [show (if 0 ≤ v ∧ v ≤ 99 then (1 : Int) else 0) = 0 from if_neg b_29]
    refine z_goto C 57 dX8_set_32 (by decide) ?_
    refine z_istore_n C [1, 2, 3, 0] [(0, .ref (a 100)), (1, .int (iI 1)), (2, .int (iI v)), (3, .int (iI 0))] hl (by decide) rfl dX8_set_57 (fun ls hl => ?_)
    refine z_iload_n C hl 3 rfl dX8_set_58 ?_
    refine z_ifF_ne C 65 dX8_set_59 (by decide) ⟨by decide, by decide⟩ (by decide) ?_
    refine z_bipush C (by decide +kernel) dX8_set_62 ?_
    exact z_retQi C hP hS hr hlocks rfl (by first | exact ⟨fun _ => ⟨rfl, rfl⟩, fun h => (by exfalso; omega)⟩ | (subst_vars; exact ⟨fun h => (by exfalso; omega), fun _ => ⟨fun k j h => (by unfold zU; (repeat' split) <;> first | rfl | (rename_i q; obtain ⟨rfl, rfl⟩ := q; first | rfl | exact absurd ⟨rfl, rfl⟩ h)), by simp [zU], rfl⟩⟩)) dX8_set_64

set_option maxRecDepth 20000 in
set_option maxHeartbeats 4000000 in
theorem c_X8_set_2 {l : Launch} {D : va_G} {Y : Nat → ClassId} {a : Int → Nat} (hI : zI a) (σ : zS) (v : Int) (hr2 : R3 v) : zMet l yX8_set cX8_set 5 (some .int) 1 (zPc D Y a σ [.ref (a 100), .int (iI 2), .int (iI v)]) (zQi D Y a (fun r τ => (¬ (0 ≤ v ∧ v ≤ 50) → r = -2 ∧ τ = σ) ∧ (0 ≤ v ∧ v ≤ 50 → (∀ k j : Int, ¬ (k = 100 ∧ j = 9) → τ k j = σ k j) ∧ τ 100 9 = v ∧ r = σ 100 9))) (inA a) := by
  refine z_start rfl (Nat.le_of_ble_eq_true rfl) hI ?_
  intro p e s m below meth c ls C hr hlocks hl hP
  have hS : va_S (inA a) s.heap s.heap [] := va_S.rf
  have hl : lv_has ls 5 [(0, .ref (a 100)), (1, .int (iI 2)), (2, .int (iI v))] := hl
  skip
  refine z_iload_n C hl 1 rfl dX8_set_0 ?_
  refine z_ifT_ne C 18 dX8_set_1 (by decide) ⟨by decide, by decide⟩ (by decide) ?_
  refine z_iload_n C hl 1 rfl dX8_set_18 ?_
  refine z_iconst C dX8_set_19 ?_
  refine z_icmpT_ne C 35 dX8_set_20 (by decide) ⟨by decide, by decide⟩ ⟨by decide, by decide⟩ (by decide) ?_
  refine z_iload_n C hl 1 rfl dX8_set_35 ?_
  refine z_iconst C dX8_set_36 ?_
  refine z_icmpF_ne C 56 dX8_set_37 (by decide) ⟨by decide, by decide⟩ ⟨by decide, by decide⟩ (by decide) ?_
  refine z_iload_n C hl 2 rfl dX8_set_40 ?_
  refine z_i2l C ⟨by omega, by omega⟩ dX8_set_41 ?_
  refine z_lconst C (z := 0) rfl dX8_set_42 ?_
  refine z_ldc2 C (z := 50) wd_157 (by decide +kernel) dX8_set_43 ?_
  refine z_sSi C hP (As := [.long (jI v), .long (jI 0), .long (jI 50)]) lk_X8_86 (c_X8_in hI σ v 0 50 ⟨by omega, by omega⟩ ⟨by decide, by decide⟩ ⟨by decide, by decide⟩) rfl hl.1 rfl (Nat.le_of_ble_eq_true rfl) ⟨Nat.le_of_ble_eq_true rfl, Nat.le_of_ble_eq_true rfl⟩ ⟨Nat.zero_le _, Nat.zero_le _⟩ dX8_set_46 ?_
  by_cases b_46 : 0 ≤ v ∧ v ≤ 50
  · rw [show (if 0 ≤ v ∧ v ≤ 50 then (1 : Int) else 0) = 1 from if_pos b_46]
    refine z_ifF_eq C 56 dX8_set_49 (by decide) ⟨by decide, by decide⟩ (by decide) ?_
    refine z_iconst C dX8_set_52 ?_
    refine z_goto C 57 dX8_set_53 (by decide) ?_
    refine z_istore_n C [1, 2, 3, 0] [(0, .ref (a 100)), (1, .int (iI 2)), (2, .int (iI v)), (3, .int (iI 1))] hl (by decide) rfl dX8_set_57 (fun ls hl => ?_)
    refine z_iload_n C hl 3 rfl dX8_set_58 ?_
    refine z_ifT_ne C 65 dX8_set_59 (by decide) ⟨by decide, by decide⟩ (by decide) ?_
    refine z_iload_n C hl 1 rfl dX8_set_65 ?_
    refine z_ifT_ne C 76 dX8_set_66 (by decide) ⟨by decide, by decide⟩ (by decide) ?_
    refine z_iload_n C hl 1 rfl dX8_set_76 ?_
    refine z_iconst C dX8_set_77 ?_
    refine z_icmpT_ne C 88 dX8_set_78 (by decide) ⟨by decide, by decide⟩ ⟨by decide, by decide⟩ (by decide) ?_
    refine z_aload_n C hl 0 rfl dX8_set_88 ?_
    refine zg_X8_78 C hP dX8_set_89 ?_
    refine z_topi (fun x1 hx1 => ?_)
    refine z_istore C [1, 2, 3, 4, 0] [(0, .ref (a 100)), (1, .int (iI 2)), (2, .int (iI v)), (3, .int (iI 1)), (4, .int (iI x1))] hl (by decide) rfl dX8_set_92 (fun ls hl => ?_)
    refine z_aload_n C hl 0 rfl dX8_set_94 ?_
    refine z_iload_n C hl 1 rfl dX8_set_95 ?_
    refine z_ifT_ne C 103 dX8_set_96 (by decide) ⟨by decide, by decide⟩ (by decide) ?_
    refine z_aload_n C hl 0 rfl dX8_set_103 ?_
    refine zg_X8_72 C hP dX8_set_104 ?_
    refine zp_X8_72 C hP hS dX8_set_107 (fun H locs hP hS => ?_)
    obtain ⟨t2, et2⟩ : ∃ z : zS, z = zU σ 100 7 (σ 100 7) := ⟨_, rfl⟩
    rw [← et2] at hP
    refine z_aload_n C hl 0 rfl dX8_set_110 ?_
    refine z_iload_n C hl 1 rfl dX8_set_111 ?_
    refine z_iconst C dX8_set_112 ?_
    refine z_icmpT_ne C 120 dX8_set_113 (by decide) ⟨by decide, by decide⟩ ⟨by decide, by decide⟩ (by decide) ?_
    refine z_aload_n C hl 0 rfl dX8_set_120 ?_
    refine zg_X8_75 C hP dX8_set_121 ?_
    rw [show t2 100 8 = σ 100 8 from by rw [et2, zU_place (by decide)]]
    refine zp_X8_75 C hP hS dX8_set_124 (fun H locs hP hS => ?_)
    obtain ⟨t3, et3⟩ : ∃ z : zS, z = zU t2 100 8 (σ 100 8) := ⟨_, rfl⟩
    rw [← et3] at hP
    refine z_aload_n C hl 0 rfl dX8_set_127 ?_
    refine z_iload_n C hl 1 rfl dX8_set_128 ?_
    refine z_iconst C dX8_set_129 ?_
    refine z_icmpF_ne C 137 dX8_set_130 (by decide) ⟨by decide, by decide⟩ ⟨by decide, by decide⟩ (by decide) ?_
    refine z_iload_n C hl 2 rfl dX8_set_133 ?_
    refine z_goto C 141 dX8_set_134 (by decide) ?_
    refine zp_X8_78 C hP hS dX8_set_141 (fun H locs hP hS => ?_)
    obtain ⟨t4, et4⟩ : ∃ z : zS, z = zU t3 100 9 v := ⟨_, rfl⟩
    rw [← et4] at hP
    refine z_iload C hl 4 rfl dX8_set_144 ?_
    exact z_retQi C hP hS hr hlocks rfl (by first | exact ⟨fun _ => ⟨rfl, rfl⟩, fun h => (by exfalso; omega)⟩ | (subst_vars; exact ⟨fun h => (by exfalso; omega), fun _ => ⟨fun k j h => (by unfold zU; (repeat' split) <;> first | rfl | (rename_i q; obtain ⟨rfl, rfl⟩ := q; first | rfl | exact absurd ⟨rfl, rfl⟩ h)), by simp [zU], rfl⟩⟩)) dX8_set_146
  · rw [show (if 0 ≤ v ∧ v ≤ 50 then (1 : Int) else 0) = 0 from if_neg b_46]
    refine z_ifT_eq C 56 dX8_set_49 (by decide) ⟨by decide, by decide⟩ (by decide) ?_
    refine z_iconst C dX8_set_56 ?_
    refine z_istore_n C [1, 2, 3, 0] [(0, .ref (a 100)), (1, .int (iI 2)), (2, .int (iI v)), (3, .int (iI 0))] hl (by decide) rfl dX8_set_57 (fun ls hl => ?_)
    refine z_iload_n C hl 3 rfl dX8_set_58 ?_
    refine z_ifF_ne C 65 dX8_set_59 (by decide) ⟨by decide, by decide⟩ (by decide) ?_
    refine z_bipush C (by decide +kernel) dX8_set_62 ?_
    exact z_retQi C hP hS hr hlocks rfl (by first | exact ⟨fun _ => ⟨rfl, rfl⟩, fun h => (by exfalso; omega)⟩ | (subst_vars; exact ⟨fun h => (by exfalso; omega), fun _ => ⟨fun k j h => (by unfold zU; (repeat' split) <;> first | rfl | (rename_i q; obtain ⟨rfl, rfl⟩ := q; first | rfl | exact absurd ⟨rfl, rfl⟩ h)), by simp [zU], rfl⟩⟩)) dX8_set_64

set_option maxRecDepth 20000 in
set_option maxHeartbeats 4000000 in
theorem c_X8_set_o {l : Launch} {D : va_G} {Y : Nat → ClassId} {a : Int → Nat} (hI : zI a) (σ : zS) (w0 v : Int) (hr1 : R3 w0) (hr2 : R3 v) (n0 : ¬ w0 = 0) (n1 : ¬ w0 = 1) (n2 : ¬ w0 = 2) : zMet l yX8_set cX8_set 5 (some .int) 1 (zPc D Y a σ [.ref (a 100), .int (iI w0), .int (iI v)]) (zQi D Y a (fun r τ => r = -2 ∧ τ = σ)) (inA a) := by
  refine z_start rfl (Nat.le_of_ble_eq_true rfl) hI ?_
  intro p e s m below meth c ls C hr hlocks hl hP
  have hS : va_S (inA a) s.heap s.heap [] := va_S.rf
  have hl : lv_has ls 5 [(0, .ref (a 100)), (1, .int (iI w0)), (2, .int (iI v))] := hl
  skip
  refine z_iload_n C hl 1 rfl dX8_set_0 ?_
  refine z_if_ne C 18 dX8_set_1 (by decide) hr1 (fun c_1 => ?_) (fun c_1 => ?_)
  · refine z_iload_n C hl 1 rfl dX8_set_18 ?_
    refine z_iconst C dX8_set_19 ?_
    refine z_icmp_ne C 35 dX8_set_20 (by decide) hr1 ⟨by omega, by omega⟩ (fun c_20 => ?_) (fun c_20 => ?_)
    · refine z_iload_n C hl 1 rfl dX8_set_35 ?_
      refine z_iconst C dX8_set_36 ?_
      refine z_icmp_ne C 56 dX8_set_37 (by decide) hr1 ⟨by omega, by omega⟩ (fun c_37 => ?_) (fun c_37 => ?_)
      · refine z_iconst C dX8_set_56 ?_
        refine z_istore_n C [1, 2, 3, 0] [(0, .ref (a 100)), (1, .int (iI w0)), (2, .int (iI v)), (3, .int (iI 0))] hl (by decide) rfl dX8_set_57 (fun ls hl => ?_)
        refine z_iload_n C hl 3 rfl dX8_set_58 ?_
        refine z_ifF_ne C 65 dX8_set_59 (by decide) ⟨by decide, by decide⟩ (by decide) ?_
        refine z_bipush C (by decide +kernel) dX8_set_62 ?_
        exact z_retQi C hP hS hr hlocks rfl (by exact ⟨rfl, rfl⟩) dX8_set_64
      · exact absurd c_37 n2
    · exact absurd c_20 n1
  · exact absurd c_1 n0

set_option maxRecDepth 20000 in
set_option maxHeartbeats 4000000 in
theorem c_X8_say {l : Launch} {D : va_G} {Y : Nat → ClassId} {a : Int → Nat} (hI : zI a) (σ : zS) (sg : Int) (hr1 : R3 sg) (hpm : 0 ≤ σ 100 18 ∧ σ 100 18 ≤ 110) : zMet l yX8_say cX8_say 2 (some .int) 1 (zPc D Y a σ [.ref (a 100), .int (iI sg)]) (zQi D Y a (fun r τ => if ¬ (33 ≤ sg ∧ sg ≤ 126) then r = -2 ∧ τ = σ else if 110 ≤ σ 100 18 then r = -4 ∧ τ = σ else τ = zU (zU σ 110 (σ 100 18) sg) 100 18 (σ 100 18 + 1) ∧ r = σ 100 18 + 1)) (inA a) := by
  refine z_start rfl (Nat.le_of_ble_eq_true rfl) hI ?_
  intro p e s m below meth c ls C hr hlocks hl hP
  have hS : va_S (inA a) s.heap s.heap [] := va_S.rf
  have hl : lv_has ls 2 [(0, .ref (a 100)), (1, .int (iI sg))] := hl
  skip
  refine z_iload_n C hl 1 rfl dX8_say_0 ?_
  refine z_i2l C ⟨by omega, by omega⟩ dX8_say_1 ?_
  refine z_ldc2 C (z := 33) wd_229 (by decide +kernel) dX8_say_2 ?_
  refine z_ldc2 C (z := 126) wd_230 (by decide +kernel) dX8_say_5 ?_
  refine z_sSi C hP (As := [.long (jI sg), .long (jI 33), .long (jI 126)]) lk_X8_86 (c_X8_in hI σ sg 33 126 ⟨by omega, by omega⟩ ⟨by decide, by decide⟩ ⟨by decide, by decide⟩) rfl hl.1 rfl (Nat.le_of_ble_eq_true rfl) ⟨Nat.le_of_ble_eq_true rfl, Nat.le_of_ble_eq_true rfl⟩ ⟨Nat.zero_le _, Nat.zero_le _⟩ dX8_say_8 ?_
  by_cases b_8 : 33 ≤ sg ∧ sg ≤ 126
  · rw [show (if 33 ≤ sg ∧ sg ≤ 126 then (1 : Int) else 0) = 1 from if_pos b_8]
    refine z_ifT_ne C 17 dX8_say_11 (by decide) ⟨by decide, by decide⟩ (by decide) ?_
    refine z_aload_n C hl 0 rfl dX8_say_17 ?_
    refine zg_X8_124 C hP dX8_say_18 ?_
    refine z_bipush C (by decide +kernel) dX8_say_21 ?_
    refine z_icmp_ne C 29 dX8_say_23 (by decide) ⟨by omega, by omega⟩ ⟨by omega, by omega⟩ (fun c_23 => ?_) (fun c_23 => ?_)
    · refine z_aload_n C hl 0 rfl dX8_say_29 ?_
      refine zg_X8_37 C hP dX8_say_30 ?_
      refine z_aload_n C hl 0 rfl dX8_say_33 ?_
      refine zg_X8_124 C hP dX8_say_34 ?_
      refine z_iload_n C hl 1 rfl dX8_say_37 ?_
      refine z_iast C hP hS ia_110 ⟨by omega, by omega⟩ dX8_say_38 (fun H locs hP hS => ?_)
      obtain ⟨t1, et1⟩ : ∃ z : zS, z = zU σ 110 (σ 100 18) sg := ⟨_, rfl⟩
      rw [← et1] at hP
      refine z_aload_n C hl 0 rfl dX8_say_39 ?_
      refine z_dup C rfl dX8_say_40 ?_
      refine zg_X8_124 C hP dX8_say_41 ?_
      rw [show t1 100 18 = σ 100 18 from by rw [et1, zU_cell (by decide)]]
      refine z_iconst C dX8_say_44 ?_
      refine z_iadd C dX8_say_45 ?_
      refine zp_X8_124 C hP hS dX8_say_46 (fun H locs hP hS => ?_)
      obtain ⟨t2, et2⟩ : ∃ z : zS, z = zU t1 100 18 ((σ 100 18) + 1) := ⟨_, rfl⟩
      rw [← et2] at hP
      refine z_aload_n C hl 0 rfl dX8_say_49 ?_
      refine zg_X8_124 C hP dX8_say_50 ?_
      rw [show t2 100 18 = (σ 100 18) + 1 from by rw [et2, zU_same]]
      exact z_retQi C hP hS hr hlocks rfl (by subst_vars; (repeat' split) <;> first | (exfalso; omega) | exact ⟨rfl, rfl⟩) dX8_say_53
    · refine z_bipush C (by decide +kernel) dX8_say_26 ?_
      exact z_retQi C hP hS hr hlocks rfl (by subst_vars; (repeat' split) <;> first | (exfalso; omega) | exact ⟨rfl, rfl⟩) dX8_say_28
  · rw [show (if 33 ≤ sg ∧ sg ≤ 126 then (1 : Int) else 0) = 0 from if_neg b_8]
    refine z_ifF_ne C 17 dX8_say_11 (by decide) ⟨by decide, by decide⟩ (by decide) ?_
    refine z_bipush C (by decide +kernel) dX8_say_14 ?_
    exact z_retQi C hP hS hr hlocks rfl (by subst_vars; (repeat' split) <;> first | (exfalso; omega) | exact ⟨rfl, rfl⟩) dX8_say_16

set_option maxRecDepth 20000 in
set_option maxHeartbeats 4000000 in
theorem c_X8_wipe {l : Launch} {D : va_G} {Y : Nat → ClassId} {a : Int → Nat} (hI : zI a) (σ : zS)  : zMet l yX8_wipe cX8_wipe 2 (some .int) 0 (zPc D Y a σ [.ref (a 100)]) (zQi D Y a (fun r τ => τ = zU σ 100 18 0 ∧ r = σ 100 18)) (inA a) := by
  refine z_start rfl (Nat.le_of_ble_eq_true rfl) hI ?_
  intro p e s m below meth c ls C hr hlocks hl hP
  have hS : va_S (inA a) s.heap s.heap [] := va_S.rf
  have hl : lv_has ls 2 [(0, .ref (a 100))] := hl
  skip
  refine z_aload_n C hl 0 rfl dX8_wipe_0 ?_
  refine zg_X8_124 C hP dX8_wipe_1 ?_
  refine z_topi (fun x1 hx1 => ?_)
  refine z_istore_n C [1, 0] [(0, .ref (a 100)), (1, .int (iI x1))] hl (by decide) rfl dX8_wipe_4 (fun ls hl => ?_)
  refine z_aload_n C hl 0 rfl dX8_wipe_5 ?_
  refine z_iconst C dX8_wipe_6 ?_
  refine zp_X8_124 C hP hS dX8_wipe_7 (fun H locs hP hS => ?_)
  obtain ⟨t2, et2⟩ : ∃ z : zS, z = zU σ 100 18 0 := ⟨_, rfl⟩
  rw [← et2] at hP
  refine z_iload_n C hl 1 rfl dX8_wipe_10 ?_
  exact z_retQi C hP hS hr hlocks rfl (by subst_vars; exact ⟨rfl, rfl⟩) dX8_wipe_11

set_option maxRecDepth 20000 in
set_option maxHeartbeats 4000000 in
theorem c_X8_forget {l : Launch} {D : va_G} {Y : Nat → ClassId} {a : Int → Nat} (hI : zI a) (σ : zS)  : zMet l yX8_forget cX8_forget 2 (some .int) 0 (zPc D Y a σ [.ref (a 100)]) (zQi D Y a (fun r τ => τ = zU σ 100 16 0 ∧ r = σ 100 16)) (inA a) := by
  refine z_start rfl (Nat.le_of_ble_eq_true rfl) hI ?_
  intro p e s m below meth c ls C hr hlocks hl hP
  have hS : va_S (inA a) s.heap s.heap [] := va_S.rf
  have hl : lv_has ls 2 [(0, .ref (a 100))] := hl
  skip
  refine z_aload_n C hl 0 rfl dX8_forget_0 ?_
  refine zg_X8_301 C hP dX8_forget_1 ?_
  refine z_topi (fun x1 hx1 => ?_)
  refine z_istore_n C [1, 0] [(0, .ref (a 100)), (1, .int (iI x1))] hl (by decide) rfl dX8_forget_4 (fun ls hl => ?_)
  refine z_aload_n C hl 0 rfl dX8_forget_5 ?_
  refine z_iconst C dX8_forget_6 ?_
  refine zp_X8_301 C hP hS dX8_forget_7 (fun H locs hP hS => ?_)
  obtain ⟨t2, et2⟩ : ∃ z : zS, z = zU σ 100 16 0 := ⟨_, rfl⟩
  rw [← et2] at hP
  refine z_iload_n C hl 1 rfl dX8_forget_10 ?_
  exact z_retQi C hP hS hr hlocks rfl (by subst_vars; exact ⟨rfl, rfl⟩) dX8_forget_11

theorem mSort_n (c : Int) : (mSort c < 0) ↔ ¬ (c = 46 ∨ c = 117 ∨ c = 85 ∨ c = 100 ∨ c = 68 ∨ c = 99 ∨ c = 126) := by
  unfold mSort
  repeat' split
  all_goals omega
set_option maxRecDepth 20000 in
set_option maxHeartbeats 4000000 in
theorem c_X8_faultOfWay {l : Launch} {D : va_G} {Y : Nat → ClassId} {a : Int → Nat} (hI : zI a) (σ : zS)  (hpm : 0 ≤ σ 100 18 ∧ σ 100 18 ≤ 110) (hpq : ∀ i : Int, 0 ≤ i → i < 110 → 0 ≤ σ 110 i ∧ σ 110 i ≤ 126) : zMet l yX8_faultOfWay cX8_faultOfWay 2 (some .int) 1 (zPc D Y a σ [.ref (a 100)]) (zSi (mFWg (σ 110) (σ 100 18) 110 0)) zNo := by
  refine z_start rfl (Nat.le_of_ble_eq_true rfl) hI ?_
  intro p e s m below meth c ls C hr hlocks hl hP
  have hl : lv_has ls 2 [(0, .ref (a 100))] := hl
  refine z_iconst C dX8_faultOfWay_0 ?_
  refine z_istore_n C [1, 0] [(0, .ref (a 100)), (1, .int (iI 0))] hl (by decide) rfl dX8_faultOfWay_1 (fun ls hl => ?_)
  have L_2 : ∀ (n : Nat) (i : Int) (ls : Array Slot), (0 ≤ i ∧ i ≤ 24 ∧ i ≤ σ 100 18) → (mFWg (σ 110) (σ 100 18) 110 0 = mFWg (σ 110) (σ 100 18) (110 - i).toNat i) → ((110 - i).toNat) < n → lv_has ls 2 [(0, .ref (a 100)), (1, .int (iI i))] → W p l e (zR 1) s m ([.ref (a 100)] : List Value).toArray below meth c s.heap [] 0 0 (MQ below (zSi (mFWg (σ 110) (σ 100 18) 110 0)) ([.ref (a 100)] : List Value).toArray s 0 0 zNo) (F0 m 2 ls []) := by
    intro n
    induction n with
    | zero =>
      intros; omega
    | succ n ih_2 =>
      intro i ls ii iv hm hl
      have hst := mFWg_s (σ 110) (σ 100 18) (i := i) (by omega)
      refine z_iload_n C hl 1 rfl dX8_faultOfWay_2 ?_
      refine z_aload_n C hl 0 rfl dX8_faultOfWay_3 ?_
      refine zg_X8_124 C hP dX8_faultOfWay_4 ?_
      refine z_icmp_ge C 36 dX8_faultOfWay_7 (by decide) ⟨by omega, by omega⟩ ⟨by omega, by omega⟩ (fun c_7 => ?_) (fun c_7 => ?_)
      · refine z_aload_n C hl 0 rfl dX8_faultOfWay_36 ?_
        refine zg_X8_124 C hP dX8_faultOfWay_37 ?_
        refine z_if_ne C 47 dX8_faultOfWay_40 (by decide) ⟨by omega, by omega⟩ (fun c_40 => ?_) (fun c_40 => ?_)
        · refine z_bipush C (by decide +kernel) dX8_faultOfWay_47 ?_
          exact z_retSi C hr hlocks rfl (by rw [iv, hst]; first | (rw [if_pos (by omega)]; first | (rw [if_pos (by omega)]; done) | (rw [if_neg (by omega)]; done)) | (rw [if_neg (by omega), if_pos (by omega)]; done)) dX8_faultOfWay_49
        · refine z_iconst C dX8_faultOfWay_43 ?_
          refine z_goto C 49 dX8_faultOfWay_44 (by decide) ?_
          exact z_retSi C hr hlocks rfl (by rw [iv, hst]; first | (rw [if_pos (by omega)]; first | (rw [if_pos (by omega)]; done) | (rw [if_neg (by omega)]; done)) | (rw [if_neg (by omega), if_pos (by omega)]; done)) dX8_faultOfWay_49
      · refine z_iload_n C hl 1 rfl dX8_faultOfWay_10 ?_
        refine z_bipush C (by decide +kernel) dX8_faultOfWay_11 ?_
        refine z_icmp_eq C 28 dX8_faultOfWay_13 (by decide) ⟨by omega, by omega⟩ ⟨by omega, by omega⟩ (fun c_13 => ?_) (fun c_13 => ?_)
        · refine z_iload_n C hl 1 rfl dX8_faultOfWay_28 ?_
          exact z_retSi C hr hlocks rfl (by rw [iv, hst]; first | (rw [if_pos (by omega)]; first | (rw [if_pos (by omega)]; done) | (rw [if_neg (by omega)]; done)) | (rw [if_neg (by omega), if_pos (by omega)]; done)) dX8_faultOfWay_29
        · have hqi := hpq i (by omega) (by omega)
          have hso := mSort_n (σ 110 i)
          refine z_aload_n C hl 0 rfl dX8_faultOfWay_16 ?_
          refine zg_X8_37 C hP dX8_faultOfWay_17 ?_
          refine z_iload_n C hl 1 rfl dX8_faultOfWay_20 ?_
          refine z_iald C hP ia_110 ⟨by omega, by omega⟩ dX8_faultOfWay_21 ?_
          refine z_sSi C hP (As := [.int (iI (σ 110 i))]) lk_X8_127 (c_X8_isSort hI σ (σ 110 i) (by omega)) rfl hl.1 rfl (Nat.le_of_ble_eq_true rfl) ⟨Nat.le_of_ble_eq_true rfl, Nat.le_of_ble_eq_true rfl⟩ ⟨Nat.zero_le _, Nat.zero_le _⟩ dX8_faultOfWay_22 ?_
          by_cases b_22 : (σ 110 i) = 46 ∨ (σ 110 i) = 117 ∨ (σ 110 i) = 85 ∨ (σ 110 i) = 100 ∨ (σ 110 i) = 68 ∨ (σ 110 i) = 99 ∨ (σ 110 i) = 126
          · rw [show (if (σ 110 i) = 46 ∨ (σ 110 i) = 117 ∨ (σ 110 i) = 85 ∨ (σ 110 i) = 100 ∨ (σ 110 i) = 68 ∨ (σ 110 i) = 99 ∨ (σ 110 i) = 126 then (1 : Int) else 0) = 1 from if_pos b_22]
            refine z_ifT_ne C 30 dX8_faultOfWay_25 (by decide) ⟨by decide, by decide⟩ (by decide) ?_
            refine z_iinc C 1 [1, 0] [(0, .ref (a 100)), (1, .int (iI (i + 1)))] hl rfl (by decide) rfl dX8_faultOfWay_30 (fun ls hl => ?_)
            refine z_goto C 2 dX8_faultOfWay_33 (by decide) ?_
            exact ih_2 (i + 1) ls (by omega) (by rw [iv, hst, if_neg (by omega), if_neg (by omega)]) (by omega) (lv_sub hl [0, 1] rfl)
          · rw [show (if (σ 110 i) = 46 ∨ (σ 110 i) = 117 ∨ (σ 110 i) = 85 ∨ (σ 110 i) = 100 ∨ (σ 110 i) = 68 ∨ (σ 110 i) = 99 ∨ (σ 110 i) = 126 then (1 : Int) else 0) = 0 from if_neg b_22]
            refine z_ifF_ne C 30 dX8_faultOfWay_25 (by decide) ⟨by decide, by decide⟩ (by decide) ?_
            refine z_iload_n C hl 1 rfl dX8_faultOfWay_28 ?_
            exact z_retSi C hr hlocks rfl (by rw [iv, hst]; first | (rw [if_pos (by omega)]; first | (rw [if_pos (by omega)]; done) | (rw [if_neg (by omega)]; done)) | (rw [if_neg (by omega), if_pos (by omega)]; done)) dX8_faultOfWay_29
  exact L_2 _ 0 ls (by omega) (by rfl) (Nat.lt_succ_self _) (lv_sub hl [0, 1] rfl)

def mTakeM (σ : zS) (i : Int) : zS := fun k j => if k = 105 ∧ 0 ≤ j ∧ j < i then σ 110 j else σ k j
theorem mTakeM_s (σ : zS) {i : Int} (h : 0 ≤ i) : zU (mTakeM σ i) 105 i (σ 110 i) = mTakeM σ (i + 1) := by
  funext k j
  unfold zU mTakeM
  by_cases h1 : k = 105 ∧ j = i
  · rw [if_pos h1, if_pos (by omega), h1.2]
  · rw [if_neg h1]
    by_cases h2 : k = 105 ∧ 0 ≤ j ∧ j < i
    · rw [if_pos h2, if_pos (show k = 105 ∧ 0 ≤ j ∧ j < i + 1 by omega)]
    · rw [if_neg h2, if_neg (show ¬ (k = 105 ∧ 0 ≤ j ∧ j < i + 1) by omega)]
theorem mTakeM_0 (σ : zS) : σ = mTakeM σ 0 := by
  funext k j
  unfold mTakeM
  rw [if_neg (by omega)]
theorem mTakeM_o (σ : zS) (i : Int) {k : Int} (h : k ≠ 105) : mTakeM σ i k = σ k := by
  funext j
  unfold mTakeM
  rw [if_neg (by omega)]
theorem mFWg_z (g : Int → Int) (n : Int) (h : 0 ≤ n ∧ n ≤ 110) : mFWg g n 110 0 = -6 ∨ 0 ≤ mFWg g n 110 0 := by
  have key : ∀ (k : Nat) (i : Int), 0 ≤ i → mFWg g n k i = -6 ∨ 0 ≤ mFWg g n k i := by
    intro k
    induction k with
    | zero => intro i h1; unfold mFWg; split <;> omega
    | succ k ih =>
      intro i h1
      unfold mFWg
      have := ih (i + 1) (by omega)
      repeat' split
      all_goals omega
  exact key 110 0 (by omega)
set_option maxRecDepth 20000 in
set_option maxHeartbeats 4000000 in
theorem c_X8_way {l : Launch} {D : va_G} {Y : Nat → ClassId} {a : Int → Nat} (hI : zI a) (σ : zS)  (hpm : 0 ≤ σ 100 18 ∧ σ 100 18 ≤ 110) (hpq : ∀ i : Int, 0 ≤ i → i < 110 → 0 ≤ σ 110 i ∧ σ 110 i ≤ 126) : zMet l yX8_way cX8_way 2 (some .int) 2 (zPc D Y a σ [.ref (a 100)]) (zQi D Y a (fun r τ => if mFWg (σ 110) (σ 100 18) 110 0 ≠ -6 then r = -5 ∧ τ = σ else τ = zU (zU (mTakeM σ (σ 100 18)) 100 11 (σ 100 18)) 100 18 0 ∧ r = σ 100 18)) (inA a) := by
  refine z_start rfl (Nat.le_of_ble_eq_true rfl) hI ?_
  intro p e s m below meth c ls C hr hlocks hl hP
  have hS : va_S (inA a) s.heap s.heap [] := va_S.rf
  have hl : lv_has ls 2 [(0, .ref (a 100))] := hl
  skip
  refine z_aload_n C hl 0 rfl dX8_way_0 ?_
  refine z_vSi C hP (As := []) lk_X8_138 (c_X8_faultOfWay hI σ  (by omega) (by omega)) ob_100 rfl rfl rfl hl.1 rfl (Nat.le_of_ble_eq_true rfl) ⟨Nat.le_of_ble_eq_true rfl, Nat.le_of_ble_eq_true rfl⟩ ⟨Nat.zero_le _, Nat.zero_le _⟩ dX8_way_1 ?_
  refine z_if_lt C 10 dX8_way_4 (by decide) (mFWg_r _ _ hpm) (fun c_4 => ?_) (fun c_4 => ?_)
  · have hfr := mFWg_z (σ 110) (σ 100 18) hpm
    have hfw := mFWg_ok (g := σ 110) hpm (by omega)
    refine z_iconst C dX8_way_10 ?_
    refine z_istore_n C [1, 0] [(0, .ref (a 100)), (1, .int (iI 0))] hl (by decide) rfl dX8_way_11 (fun ls hl => ?_)
    have L_12 : ∀ (n : Nat) (i : Int) (τ : zS) (H : Heap) (locs : List Loc) (hP : GP D Y a τ H) (hS : va_S (inA a) s.heap H locs) (ls : Array Slot), (0 ≤ i ∧ i ≤ σ 100 18) → (τ = mTakeM σ i) → ((σ 100 18 - i).toNat) < n → lv_has ls 2 [(0, .ref (a 100)), (1, .int (iI i))] → W p l e (zR 2) s m ([.ref (a 100)] : List Value).toArray below meth c H locs 0 0 (MQ below (zQi D Y a (fun r τ => if mFWg (σ 110) (σ 100 18) 110 0 ≠ -6 then r = -5 ∧ τ = σ else τ = zU (zU (mTakeM σ (σ 100 18)) 100 11 (σ 100 18)) 100 18 0 ∧ r = σ 100 18)) ([.ref (a 100)] : List Value).toArray s 0 0 (inA a)) (F0 m 12 ls []) := by
      intro n
      induction n with
      | zero =>
        intros; omega
      | succ n ih_12 =>
        intro i τ H locs hP hS ls ii iv hm hl
        refine z_iload_n C hl 1 rfl dX8_way_12 ?_
        refine z_aload_n C hl 0 rfl dX8_way_13 ?_
        refine zg_X8_124 C hP dX8_way_14 ?_
        rw [show τ 100 18 = σ 100 18 from by rw [iv, mTakeM_o _ _ (by decide)]]
        refine z_icmp_ge C 38 dX8_way_17 (by decide) ⟨by omega, by omega⟩ ⟨by omega, by omega⟩ (fun c_17 => ?_) (fun c_17 => ?_)
        · refine z_aload_n C hl 0 rfl dX8_way_38 ?_
          refine z_aload_n C hl 0 rfl dX8_way_39 ?_
          refine zg_X8_124 C hP dX8_way_40 ?_
          rw [show τ 100 18 = σ 100 18 from by rw [iv, mTakeM_o _ _ (by decide)]]
          refine zp_X8_81 C hP hS dX8_way_43 (fun H locs hP hS => ?_)
          obtain ⟨t1, et1⟩ : ∃ z : zS, z = zU τ 100 11 (σ 100 18) := ⟨_, rfl⟩
          rw [← et1] at hP
          refine z_aload_n C hl 0 rfl dX8_way_46 ?_
          refine z_iconst C dX8_way_47 ?_
          refine zp_X8_124 C hP hS dX8_way_48 (fun H locs hP hS => ?_)
          obtain ⟨t2, et2⟩ : ∃ z : zS, z = zU t1 100 18 0 := ⟨_, rfl⟩
          rw [← et2] at hP
          refine z_aload_n C hl 0 rfl dX8_way_51 ?_
          refine zg_X8_81 C hP dX8_way_52 ?_
          rw [show t2 100 11 = σ 100 18 from by rw [et2, zU_place (by decide), et1, zU_same]]
          exact z_retQi C hP hS hr hlocks rfl (by rw [if_neg (by omega)]; have hin : i = σ 100 18 := (by omega); subst_vars; exact ⟨by first | rfl | (rw [← hin]) | (rw [hin]), rfl⟩) dX8_way_55
        · refine z_aload_n C hl 0 rfl dX8_way_20 ?_
          refine zg_X8_22 C hP dX8_way_21 ?_
          refine z_iload_n C hl 1 rfl dX8_way_24 ?_
          refine z_aload_n C hl 0 rfl dX8_way_25 ?_
          refine zg_X8_37 C hP dX8_way_26 ?_
          refine z_iload_n C hl 1 rfl dX8_way_29 ?_
          refine z_iald C hP ia_110 ⟨by omega, by omega⟩ dX8_way_30 ?_
          rw [show τ 110 i = σ 110 i from by rw [iv, mTakeM_o _ _ (by decide)]]
          refine z_iast C hP hS ia_105 ⟨by omega, by omega⟩ dX8_way_31 (fun H locs hP hS => ?_)
          obtain ⟨t3, et3⟩ : ∃ z : zS, z = zU τ 105 i (σ 110 i) := ⟨_, rfl⟩
          rw [← et3] at hP
          refine z_iinc C 1 [1, 0] [(0, .ref (a 100)), (1, .int (iI (i + 1)))] hl rfl (by decide) rfl dX8_way_32 (fun ls hl => ?_)
          refine z_goto C 12 dX8_way_35 (by decide) ?_
          exact ih_12 (i + 1) t3 H locs hP hS ls (by omega) (by rw [et3, iv]; exact mTakeM_s _ (by omega)) (by omega) (lv_sub hl [0, 1] rfl)
    exact L_12 _ 0 σ _ _ hP hS ls (by omega) (by exact mTakeM_0 _) (Nat.lt_succ_self _) (lv_sub hl [0, 1] rfl)
  · refine z_bipush C (by decide +kernel) dX8_way_7 ?_
    exact z_retQi C hP hS hr hlocks rfl (by rw [if_pos (by omega)]; exact ⟨rfl, rfl⟩) dX8_way_9
