def jAddT (σ : zS) (rr so ef v : Int) : zS := zU (zU (zU (zU (zU σ 106 (σ 100 16) rr) 107 (σ 100 16) so) 108 (σ 100 16) ef) 109 (σ 100 16) v) 100 16 (σ 100 16 + 1)
set_option maxRecDepth 20000 in
set_option maxHeartbeats 4000000 in
theorem c_X8_time {l : Launch} {D : va_G} {Y : Nat → ClassId} {a : Int → Nat} (hI : zI a) (σ : zS) (rr so ef v : Int) (r1 : R3 rr) (r2 : R3 so) (r3 : R3 ef) (r4 : R3 v) (hrb : 0 ≤ σ 100 0 ∧ σ 100 0 ≤ 15) (htm : 0 ≤ σ 100 16 ∧ σ 100 16 ≤ 6) : zMet l yX8_time cX8_time 5 (some .int) 3 (zPc D Y a σ [.ref (a 100), .int (iI rr), .int (iI so), .int (iI ef), .int (iI v)]) (zQi D Y a (fun r τ => if ¬ (0 ≤ rr ∧ rr ≤ 3 ∧ mBit (σ 100 0) rr = 1) then r = -1 ∧ τ = σ else if ¬ ((0 ≤ so ∧ so ≤ 4) ∧ (0 ≤ ef ∧ ef ≤ 4) ∧ 1 ≤ v ∧ v ≤ 300) then r = -2 ∧ τ = σ else if 6 ≤ σ 100 16 then r = -4 ∧ τ = σ else τ = jAddT σ rr so ef v ∧ r = σ 100 16 + 1)) (inA a) := by
  refine z_start rfl (Nat.le_of_ble_eq_true rfl) hI ?_
  intro p e s m below meth c ls C hr hlocks hl hP
  have hS : va_S (inA a) s.heap s.heap [] := va_S.rf
  have hl : lv_has ls 5 [(0, .ref (a 100)), (1, .int (iI rr)), (2, .int (iI so)), (3, .int (iI ef)), (4, .int (iI v))] := hl
  skip
  refine z_aload_n C hl 0 rfl dX8_time_0 ?_
  refine z_iload_n C hl 1 rfl dX8_time_1 ?_
  refine z_vSi C hP (As := [.int (iI rr)]) lk_X8_110 (c_X8_isThere hI σ rr r1 hrb) ob_100 rfl rfl rfl hl.1 rfl (Nat.le_of_ble_eq_true rfl) ⟨Nat.le_of_ble_eq_true rfl, Nat.le_of_ble_eq_true rfl⟩ ⟨Nat.zero_le _, Nat.zero_le _⟩ dX8_time_2 ?_
  by_cases b_2 : 0 ≤ rr ∧ rr ≤ 3 ∧ mBit (σ 100 0) rr = 1
  · rw [show (if 0 ≤ rr ∧ rr ≤ 3 ∧ mBit (σ 100 0) rr = 1 then (1 : Int) else 0) = 1 from if_pos b_2]
    refine z_ifT_ne C 10 dX8_time_5 (by decide) ⟨by decide, by decide⟩ (by decide) ?_
    refine z_iload_n C hl 2 rfl dX8_time_10 ?_
    refine z_i2l C ⟨by omega, by omega⟩ dX8_time_11 ?_
    refine z_lconst C (z := 0) rfl dX8_time_12 ?_
    refine z_ldc2 C (z := 4) wd_169 (by decide +kernel) dX8_time_13 ?_
    refine z_sSi C hP (As := [.long (jI so), .long (jI 0), .long (jI 4)]) lk_X8_86 (c_X8_in hI σ so 0 4 ⟨by omega, by omega⟩ ⟨by omega, by omega⟩ ⟨by omega, by omega⟩) rfl hl.1 rfl (Nat.le_of_ble_eq_true rfl) ⟨Nat.le_of_ble_eq_true rfl, Nat.le_of_ble_eq_true rfl⟩ ⟨Nat.zero_le _, Nat.zero_le _⟩ dX8_time_16 ?_
    by_cases b_16 : 0 ≤ so ∧ so ≤ 4
    · rw [show (if 0 ≤ so ∧ so ≤ 4 then (1 : Int) else 0) = 1 from if_pos b_16]
      refine z_ifF_eq C 42 dX8_time_19 (by decide) ⟨by decide, by decide⟩ (by decide) ?_
      refine z_iload_n C hl 3 rfl dX8_time_22 ?_
      refine z_sSi C hP (As := [.int (iI ef)]) lk_X8_149 (c_X8_isEffort hI σ ef r3) rfl hl.1 rfl (Nat.le_of_ble_eq_true rfl) ⟨Nat.le_of_ble_eq_true rfl, Nat.le_of_ble_eq_true rfl⟩ ⟨Nat.zero_le _, Nat.zero_le _⟩ dX8_time_23 ?_
      by_cases b_23 : 0 ≤ ef ∧ ef ≤ 4
      · rw [show (if 0 ≤ ef ∧ ef ≤ 4 then (1 : Int) else 0) = 1 from if_pos b_23]
        refine z_ifF_eq C 42 dX8_time_26 (by decide) ⟨by decide, by decide⟩ (by decide) ?_
        refine z_iload C hl 4 rfl dX8_time_29 ?_
        refine z_i2l C ⟨by omega, by omega⟩ dX8_time_31 ?_
        refine z_lconst C (z := 1) rfl dX8_time_32 ?_
        refine z_ldc2 C (z := 300) wd_809 (by decide +kernel) dX8_time_33 ?_
        refine z_sSi C hP (As := [.long (jI v), .long (jI 1), .long (jI 300)]) lk_X8_86 (c_X8_in hI σ v 1 300 ⟨by omega, by omega⟩ ⟨by omega, by omega⟩ ⟨by omega, by omega⟩) rfl hl.1 rfl (Nat.le_of_ble_eq_true rfl) ⟨Nat.le_of_ble_eq_true rfl, Nat.le_of_ble_eq_true rfl⟩ ⟨Nat.zero_le _, Nat.zero_le _⟩ dX8_time_36 ?_
        by_cases b_36 : 1 ≤ v ∧ v ≤ 300
        · rw [show (if 1 ≤ v ∧ v ≤ 300 then (1 : Int) else 0) = 1 from if_pos b_36]
          refine z_ifT_ne C 45 dX8_time_39 (by decide) ⟨by decide, by decide⟩ (by decide) ?_
          refine z_aload_n C hl 0 rfl dX8_time_45 ?_
          refine zg_X8_301 C hP dX8_time_46 ?_
          refine z_bipush C (by decide +kernel) dX8_time_49 ?_
          refine z_icmp_ne C 57 dX8_time_51 (by decide) ⟨by omega, by omega⟩ ⟨by omega, by omega⟩ (fun c_51 => ?_) (fun c_51 => ?_)
          · refine z_aload_n C hl 0 rfl dX8_time_57 ?_
            refine zg_X8_25 C hP dX8_time_58 ?_
            refine z_aload_n C hl 0 rfl dX8_time_61 ?_
            refine zg_X8_301 C hP dX8_time_62 ?_
            refine z_iload_n C hl 1 rfl dX8_time_65 ?_
            refine z_iast C hP hS ia_106 ⟨by omega, by omega⟩ dX8_time_66 (fun H locs hP hS => ?_)
            obtain ⟨t1, et1⟩ : ∃ z : zS, z = zU σ 106 (σ 100 16) rr := ⟨_, rfl⟩
            rw [← et1] at hP
            refine z_aload_n C hl 0 rfl dX8_time_67 ?_
            refine zg_X8_28 C hP dX8_time_68 ?_
            refine z_aload_n C hl 0 rfl dX8_time_71 ?_
            refine zg_X8_301 C hP dX8_time_72 ?_
            rw [show t1 100 16 = σ 100 16 from by rw [et1, zU_cell (by decide)]]
            refine z_iload_n C hl 2 rfl dX8_time_75 ?_
            refine z_iast C hP hS ia_107 ⟨by omega, by omega⟩ dX8_time_76 (fun H locs hP hS => ?_)
            obtain ⟨t2, et2⟩ : ∃ z : zS, z = zU t1 107 (σ 100 16) so := ⟨_, rfl⟩
            rw [← et2] at hP
            refine z_aload_n C hl 0 rfl dX8_time_77 ?_
            refine zg_X8_31 C hP dX8_time_78 ?_
            refine z_aload_n C hl 0 rfl dX8_time_81 ?_
            refine zg_X8_301 C hP dX8_time_82 ?_
            rw [show t2 100 16 = σ 100 16 from by rw [et2, zU_cell (by decide), et1, zU_cell (by decide)]]
            refine z_iload_n C hl 3 rfl dX8_time_85 ?_
            refine z_iast C hP hS ia_108 ⟨by omega, by omega⟩ dX8_time_86 (fun H locs hP hS => ?_)
            obtain ⟨t3, et3⟩ : ∃ z : zS, z = zU t2 108 (σ 100 16) ef := ⟨_, rfl⟩
            rw [← et3] at hP
            refine z_aload_n C hl 0 rfl dX8_time_87 ?_
            refine zg_X8_34 C hP dX8_time_88 ?_
            refine z_aload_n C hl 0 rfl dX8_time_91 ?_
            refine zg_X8_301 C hP dX8_time_92 ?_
            rw [show t3 100 16 = σ 100 16 from by rw [et3, zU_cell (by decide), et2, zU_cell (by decide), et1, zU_cell (by decide)]]
            refine z_iload C hl 4 rfl dX8_time_95 ?_
            refine z_iast C hP hS ia_109 ⟨by omega, by omega⟩ dX8_time_97 (fun H locs hP hS => ?_)
            obtain ⟨t4, et4⟩ : ∃ z : zS, z = zU t3 109 (σ 100 16) v := ⟨_, rfl⟩
            rw [← et4] at hP
            refine z_aload_n C hl 0 rfl dX8_time_98 ?_
            refine z_dup C rfl dX8_time_99 ?_
            refine zg_X8_301 C hP dX8_time_100 ?_
            rw [show t4 100 16 = σ 100 16 from by rw [et4, zU_cell (by decide), et3, zU_cell (by decide), et2, zU_cell (by decide), et1, zU_cell (by decide)]]
            refine z_iconst C dX8_time_103 ?_
            refine z_iadd C dX8_time_104 ?_
            refine zp_X8_301 C hP hS dX8_time_105 (fun H locs hP hS => ?_)
            obtain ⟨t5, et5⟩ : ∃ z : zS, z = zU t4 100 16 ((σ 100 16) + 1) := ⟨_, rfl⟩
            rw [← et5] at hP
            refine z_aload_n C hl 0 rfl dX8_time_108 ?_
            refine zg_X8_301 C hP dX8_time_109 ?_
            rw [show t5 100 16 = (σ 100 16) + 1 from by rw [et5, zU_same]]
            exact z_retQi C hP hS hr hlocks rfl (by (repeat' split) <;> first | (exfalso; omega) | exact ⟨rfl, rfl⟩ | (subst_vars; exact ⟨rfl, by simp [jAddT, zU]⟩)) dX8_time_112
          · refine z_bipush C (by decide +kernel) dX8_time_54 ?_
            exact z_retQi C hP hS hr hlocks rfl (by (repeat' split) <;> first | (exfalso; omega) | exact ⟨rfl, rfl⟩ | (subst_vars; exact ⟨rfl, by simp [jAddT, zU]⟩)) dX8_time_56
        · rw [show (if 1 ≤ v ∧ v ≤ 300 then (1 : Int) else 0) = 0 from if_neg b_36]
          refine z_ifF_ne C 45 dX8_time_39 (by decide) ⟨by decide, by decide⟩ (by decide) ?_
          refine z_bipush C (by decide +kernel) dX8_time_42 ?_
          exact z_retQi C hP hS hr hlocks rfl (by (repeat' split) <;> first | (exfalso; omega) | exact ⟨rfl, rfl⟩ | (subst_vars; exact ⟨rfl, by simp [jAddT, zU]⟩)) dX8_time_44
      · rw [show (if 0 ≤ ef ∧ ef ≤ 4 then (1 : Int) else 0) = 0 from if_neg b_23]
        refine z_ifT_eq C 42 dX8_time_26 (by decide) ⟨by decide, by decide⟩ (by decide) ?_
        refine z_bipush C (by decide +kernel) dX8_time_42 ?_
        exact z_retQi C hP hS hr hlocks rfl (by (repeat' split) <;> first | (exfalso; omega) | exact ⟨rfl, rfl⟩ | (subst_vars; exact ⟨rfl, by simp [jAddT, zU]⟩)) dX8_time_44
    · rw [show (if 0 ≤ so ∧ so ≤ 4 then (1 : Int) else 0) = 0 from if_neg b_16]
      refine z_ifT_eq C 42 dX8_time_19 (by decide) ⟨by decide, by decide⟩ (by decide) ?_
      refine z_bipush C (by decide +kernel) dX8_time_42 ?_
      exact z_retQi C hP hS hr hlocks rfl (by (repeat' split) <;> first | (exfalso; omega) | exact ⟨rfl, rfl⟩ | (subst_vars; exact ⟨rfl, by simp [jAddT, zU]⟩)) dX8_time_44
  · rw [show (if 0 ≤ rr ∧ rr ≤ 3 ∧ mBit (σ 100 0) rr = 1 then (1 : Int) else 0) = 0 from if_neg b_2]
    refine z_ifF_ne C 10 dX8_time_5 (by decide) ⟨by decide, by decide⟩ (by decide) ?_
    refine z_iconst C dX8_time_8 ?_
    exact z_retQi C hP hS hr hlocks rfl (by (repeat' split) <;> first | (exfalso; omega) | exact ⟨rfl, rfl⟩ | (subst_vars; exact ⟨rfl, by simp [jAddT, zU]⟩)) dX8_time_9

theorem jChr_h : ∀ n : Nat, n < 5 → mHard (mSort (jChr (n : Int))) = mHard (n : Int) := by decide +kernel
theorem jChr_g {i : Int} (h : 0 ≤ i ∧ i ≤ 4) : mHard (mSort (jChr i)) = mHard i := by
  have := jChr_h i.toNat (by omega)
  rwa [Int.toNat_of_nonneg h.1] at this
def jHold (σ : zS) (rr str : Int) : Prop := ∀ i : Int, 0 ≤ i → i < σ 100 16 → σ 106 i ≠ rr ∨ mSec (mHard (σ 107 i) / 2) (σ 108 i * str) = σ 109 i
def jHoN (σ : zS) (rr str n : Int) : Prop := ∀ i : Int, 0 ≤ i → i < n → σ 106 i ≠ rr ∨ mSec (mHard (σ 107 i) / 2) (σ 108 i * str) = σ 109 i
theorem jHoN_s (σ : zS) (rr str : Int) {n : Int} (h : 0 ≤ n) : mB (jHoN σ rr str (n + 1)) = if mB (jHoN σ rr str n) = 0 then 0 else if σ 106 n ≠ rr ∨ mSec (mHard (σ 107 n) / 2) (σ 108 n * str) = σ 109 n then 1 else 0 := by
  by_cases h1 : jHoN σ rr str n
  · rw [mB_t h1, if_neg (by decide)]
    by_cases h2 : σ 106 n ≠ rr ∨ mSec (mHard (σ 107 n) / 2) (σ 108 n * str) = σ 109 n
    · rw [if_pos h2]
      exact mB_t (fun i a1 a2 => if hi : i = n then by rw [hi]; exact h2 else h1 i a1 (by omega))
    · rw [if_neg h2]
      exact mB_f (fun q => h2 (q n h (by omega)))
  · rw [mB_f h1, if_pos rfl]
    exact mB_f (fun q => h1 (fun i a1 a2 => q i a1 (by omega)))
set_option maxRecDepth 20000 in
set_option maxHeartbeats 4000000 in
theorem c_X8_holds {l : Launch} {D : va_G} {Y : Nat → ClassId} {a : Int → Nat} (hI : zI a) (σ : zS) (rr str : Int) (htm : 0 ≤ σ 100 16 ∧ σ 100 16 ≤ 6) (hti : ∀ i : Int, 0 ≤ i → i < 6 → (0 ≤ σ 106 i ∧ σ 106 i ≤ 3) ∧ (0 ≤ σ 107 i ∧ σ 107 i ≤ 4) ∧ (0 ≤ σ 108 i ∧ σ 108 i ≤ 4) ∧ (0 ≤ σ 109 i ∧ σ 109 i ≤ 300)) (hr0 : 0 ≤ rr ∧ rr ≤ 3) (hs0 : 1 ≤ str ∧ str ≤ 20) : zMet l yX8_holds cX8_holds 6 (some .boolean) 1 (zPc D Y a σ [.ref (a 100), .int (iI rr), .int (iI str)]) (zSi (mB (jHold σ rr str))) zNo := by
  refine z_start rfl (Nat.le_of_ble_eq_true rfl) hI ?_
  intro p e s m below meth c ls C hr hlocks hl hP
  have hl : lv_has ls 6 [(0, .ref (a 100)), (1, .int (iI rr)), (2, .int (iI str))] := hl
  refine z_iconst C dX8_holds_0 ?_
  refine z_istore_n C [1, 2, 3, 0] [(0, .ref (a 100)), (1, .int (iI rr)), (2, .int (iI str)), (3, .int (iI 1))] hl (by decide) rfl dX8_holds_1 (fun ls hl => ?_)
  refine z_iconst C dX8_holds_2 ?_
  refine z_istore C [1, 2, 3, 4, 0] [(0, .ref (a 100)), (1, .int (iI rr)), (2, .int (iI str)), (3, .int (iI 1)), (4, .int (iI 0))] hl (by decide) rfl dX8_holds_3 (fun ls hl => ?_)
  have L_5 : ∀ (n : Nat) (al : Int) (i : Int) (ls : Array Slot), (0 ≤ i ∧ i ≤ σ 100 16) → (al = mB (jHoN σ rr str i)) → ((σ 100 16 - i).toNat) < n → lv_has ls 6 [(0, .ref (a 100)), (1, .int (iI rr)), (2, .int (iI str)), (3, .int (iI al)), (4, .int (iI i))] → W p l e (zR 1) s m ([.ref (a 100), .int (iI rr), .int (iI str)] : List Value).toArray below meth c s.heap [] 0 0 (MQ below (zSi (mB (jHold σ rr str))) ([.ref (a 100), .int (iI rr), .int (iI str)] : List Value).toArray s 0 0 zNo) (F0 m 5 ls []) := by
    intro n
    induction n with
    | zero =>
      intros; omega
    | succ n ih_5 =>
      intro al i ls ii iv hm hl
      have hbb := mB_b (jHoN σ rr str i)
      rw [← iv] at hbb
      refine z_iload C hl 4 rfl dX8_holds_5 ?_
      refine z_aload_n C hl 0 rfl dX8_holds_7 ?_
      refine zg_X8_301 C hP dX8_holds_8 ?_
      refine z_icmp_ge C 82 dX8_holds_11 (by decide) ⟨by omega, by omega⟩ ⟨by omega, by omega⟩ (fun c_11 => ?_) (fun c_11 => ?_)
      · refine z_iload_n C hl 3 rfl dX8_holds_82 ?_
        exact z_retSi C hr hlocks (zNb (by omega)) (by rw [iv, show i = σ 100 16 from (by omega)]; rfl) dX8_holds_83
      · have hti0 := hti i (by omega) (by omega)
        have hhb := mHard_b (σ 107 i)
        have hpr := mulb (A := 4) (B := 20) (x := σ 108 i) (y := str) (by omega) (by omega)
        have hqb := mSec_b (h := mHard (σ 107 i) / 2) (t := σ 108 i * str) (by omega)
        refine z_aload_n C hl 0 rfl dX8_holds_14 ?_
        refine zg_X8_28 C hP dX8_holds_15 ?_
        refine z_iload C hl 4 rfl dX8_holds_18 ?_
        refine z_iald C hP ia_107 ⟨by omega, by omega⟩ dX8_holds_20 ?_
        refine z_sSi C hP (As := [.int (iI (σ 107 i))]) lk_X8_264 (c_X8_sortOf hI σ (σ 107 i) (by omega)) rfl hl.1 rfl (Nat.le_of_ble_eq_true rfl) ⟨Nat.le_of_ble_eq_true rfl, Nat.le_of_ble_eq_true rfl⟩ ⟨Nat.zero_le _, Nat.zero_le _⟩ dX8_holds_21 ?_
        rw [show (if σ 107 i = 0 then 46 else if σ 107 i = 1 then 117 else if σ 107 i = 2 then 85 else if σ 107 i = 3 then 100 else 68 : Int) = jChr (σ 107 i) from rfl]
        refine z_sSi C hP (As := [.int (iI (jChr (σ 107 i)))]) lk_X8_190 (c_X8_hard hI σ (jChr (σ 107 i)) (jChr_b _)) rfl hl.1 rfl (Nat.le_of_ble_eq_true rfl) ⟨Nat.le_of_ble_eq_true rfl, Nat.le_of_ble_eq_true rfl⟩ ⟨Nat.zero_le _, Nat.zero_le _⟩ dX8_holds_24 ?_
        rw [jChr_g (by omega)]
        refine z_iconst C dX8_holds_27 ?_
        refine z_idiv C ⟨by omega, by omega, by omega, by omega⟩ dX8_holds_28 ?_
        refine z_aload_n C hl 0 rfl dX8_holds_29 ?_
        refine zg_X8_31 C hP dX8_holds_30 ?_
        refine z_iload C hl 4 rfl dX8_holds_33 ?_
        refine z_iald C hP ia_108 ⟨by omega, by omega⟩ dX8_holds_35 ?_
        refine z_iload_n C hl 2 rfl dX8_holds_36 ?_
        refine z_imul C dX8_holds_37 ?_
        refine z_sSi C hP (As := [.int (iI ((mHard (σ 107 i)) / 2)), .int (iI ((σ 108 i) * str))]) lk_X8_193 (c_X8_seconds hI σ ((mHard (σ 107 i)) / 2) ((σ 108 i) * str) (by omega) (by omega)) rfl hl.1 rfl (Nat.le_of_ble_eq_true rfl) ⟨Nat.le_of_ble_eq_true rfl, Nat.le_of_ble_eq_true rfl⟩ ⟨Nat.zero_le _, Nat.zero_le _⟩ dX8_holds_38 ?_
        refine z_topi (fun x1 hx1 => ?_)
        refine z_istore C [1, 2, 3, 4, 5, 0] [(0, .ref (a 100)), (1, .int (iI rr)), (2, .int (iI str)), (3, .int (iI al)), (4, .int (iI i)), (5, .int (iI x1))] hl (by decide) rfl dX8_holds_41 (fun ls hl => ?_)
        refine z_iload_n C hl 3 rfl dX8_holds_43 ?_
        refine z_if_eq C 74 dX8_holds_44 (by decide) ⟨by omega, by omega⟩ (fun c_44 => ?_) (fun c_44 => ?_)
        · refine z_iconst C dX8_holds_74 ?_
          refine z_istore_n C [1, 2, 3, 0, 4, 5] [(0, .ref (a 100)), (1, .int (iI rr)), (2, .int (iI str)), (3, .int (iI 0)), (4, .int (iI i)), (5, .int (iI x1))] hl (by decide) rfl dX8_holds_75 (fun ls hl => ?_)
          refine z_iinc C 4 [1, 2, 3, 4, 0, 5] [(0, .ref (a 100)), (1, .int (iI rr)), (2, .int (iI str)), (3, .int (iI 0)), (4, .int (iI (i + 1))), (5, .int (iI x1))] hl rfl (by decide) rfl dX8_holds_76 (fun ls hl => ?_)
          refine z_goto C 5 dX8_holds_79 (by decide) ?_
          exact ih_5 0 (i + 1) ls (by omega) (by rw [jHoN_s σ rr str ii.1, ← iv, hx1]; first | (rw [if_pos (by omega)]; done) | (rw [if_neg (by omega), if_pos (by omega)]; done) | (rw [if_neg (by omega), if_neg (by omega)]; done)) (by omega) (lv_sub hl [0, 1, 2, 3, 4] rfl)
        · refine z_aload_n C hl 0 rfl dX8_holds_47 ?_
          refine zg_X8_25 C hP dX8_holds_48 ?_
          refine z_iload C hl 4 rfl dX8_holds_51 ?_
          refine z_iald C hP ia_106 ⟨by omega, by omega⟩ dX8_holds_53 ?_
          refine z_iload_n C hl 1 rfl dX8_holds_54 ?_
          refine z_icmp_ne C 70 dX8_holds_55 (by decide) ⟨by omega, by omega⟩ ⟨by omega, by omega⟩ (fun c_55 => ?_) (fun c_55 => ?_)
          · refine z_iconst C dX8_holds_70 ?_
            refine z_goto C 75 dX8_holds_71 (by decide) ?_
            refine z_istore_n C [1, 2, 3, 0, 4, 5] [(0, .ref (a 100)), (1, .int (iI rr)), (2, .int (iI str)), (3, .int (iI 1)), (4, .int (iI i)), (5, .int (iI x1))] hl (by decide) rfl dX8_holds_75 (fun ls hl => ?_)
            refine z_iinc C 4 [1, 2, 3, 4, 0, 5] [(0, .ref (a 100)), (1, .int (iI rr)), (2, .int (iI str)), (3, .int (iI 1)), (4, .int (iI (i + 1))), (5, .int (iI x1))] hl rfl (by decide) rfl dX8_holds_76 (fun ls hl => ?_)
            refine z_goto C 5 dX8_holds_79 (by decide) ?_
            exact ih_5 1 (i + 1) ls (by omega) (by rw [jHoN_s σ rr str ii.1, ← iv, hx1]; first | (rw [if_pos (by omega)]; done) | (rw [if_neg (by omega), if_pos (by omega)]; done) | (rw [if_neg (by omega), if_neg (by omega)]; done)) (by omega) (lv_sub hl [0, 1, 2, 3, 4] rfl)
          · refine z_iload C hl 5 rfl dX8_holds_58 ?_
            refine z_aload_n C hl 0 rfl dX8_holds_60 ?_
            refine zg_X8_34 C hP dX8_holds_61 ?_
            refine z_iload C hl 4 rfl dX8_holds_64 ?_
            refine z_iald C hP ia_109 ⟨by omega, by omega⟩ dX8_holds_66 ?_
            refine z_icmp_ne C 74 dX8_holds_67 (by decide) ⟨by omega, by omega⟩ ⟨by omega, by omega⟩ (fun c_67 => ?_) (fun c_67 => ?_)
            · refine z_iconst C dX8_holds_74 ?_
              refine z_istore_n C [1, 2, 3, 0, 4, 5] [(0, .ref (a 100)), (1, .int (iI rr)), (2, .int (iI str)), (3, .int (iI 0)), (4, .int (iI i)), (5, .int (iI x1))] hl (by decide) rfl dX8_holds_75 (fun ls hl => ?_)
              refine z_iinc C 4 [1, 2, 3, 4, 0, 5] [(0, .ref (a 100)), (1, .int (iI rr)), (2, .int (iI str)), (3, .int (iI 0)), (4, .int (iI (i + 1))), (5, .int (iI x1))] hl rfl (by decide) rfl dX8_holds_76 (fun ls hl => ?_)
              refine z_goto C 5 dX8_holds_79 (by decide) ?_
              exact ih_5 0 (i + 1) ls (by omega) (by rw [jHoN_s σ rr str ii.1, ← iv, hx1]; first | (rw [if_pos (by omega)]; done) | (rw [if_neg (by omega), if_pos (by omega)]; done) | (rw [if_neg (by omega), if_neg (by omega)]; done)) (by omega) (lv_sub hl [0, 1, 2, 3, 4] rfl)
            · refine z_iconst C dX8_holds_70 ?_
              refine z_goto C 75 dX8_holds_71 (by decide) ?_
              refine z_istore_n C [1, 2, 3, 0, 4, 5] [(0, .ref (a 100)), (1, .int (iI rr)), (2, .int (iI str)), (3, .int (iI 1)), (4, .int (iI i)), (5, .int (iI x1))] hl (by decide) rfl dX8_holds_75 (fun ls hl => ?_)
              refine z_iinc C 4 [1, 2, 3, 4, 0, 5] [(0, .ref (a 100)), (1, .int (iI rr)), (2, .int (iI str)), (3, .int (iI 1)), (4, .int (iI (i + 1))), (5, .int (iI x1))] hl rfl (by decide) rfl dX8_holds_76 (fun ls hl => ?_)
              refine z_goto C 5 dX8_holds_79 (by decide) ?_
              exact ih_5 1 (i + 1) ls (by omega) (by rw [jHoN_s σ rr str ii.1, ← iv, hx1]; first | (rw [if_pos (by omega)]; done) | (rw [if_neg (by omega), if_pos (by omega)]; done) | (rw [if_neg (by omega), if_neg (by omega)]; done)) (by omega) (lv_sub hl [0, 1, 2, 3, 4] rfl)
  exact L_5 _ 1 0 ls (by omega) (by exact (mB_t (fun j h1 h2 => by omega)).symm) (Nat.lt_succ_self _) (lv_sub hl [0, 1, 2, 3, 4] rfl)

set_option maxRecDepth 20000 in
set_option maxHeartbeats 4000000 in
theorem c_X8_strong {l : Launch} {D : va_G} {Y : Nat → ClassId} {a : Int → Nat} (hI : zI a) (σ : zS) (rr wh : Int) (r1 : R3 rr) (r2 : R3 wh) (hrb : 0 ≤ σ 100 0 ∧ σ 100 0 ≤ 15) (htm : 0 ≤ σ 100 16 ∧ σ 100 16 ≤ 6) (hti : ∀ i : Int, 0 ≤ i → i < 6 → (0 ≤ σ 106 i ∧ σ 106 i ≤ 3) ∧ (0 ≤ σ 107 i ∧ σ 107 i ≤ 4) ∧ (0 ≤ σ 108 i ∧ σ 108 i ≤ 4) ∧ (0 ≤ σ 109 i ∧ σ 109 i ≤ 300)) : zMet l yX8_strong cX8_strong 7 (some .int) 3 (zPc D Y a σ [.ref (a 100), .int (iI rr), .int (iI wh)]) (zSi (if 0 ≤ rr ∧ rr ≤ 3 ∧ mBit (σ 100 0) rr = 1 then (if 0 ≤ wh ∧ wh ≤ 2 then (if wh = 0 then mSum (fun i => mB ((fun s0 => jHold σ rr s0) (i + 1))) 20 else if wh = 1 then mFst (fun s0 => jHold σ rr s0) 20 else mLst (fun s0 => jHold σ rr s0) 20) else -2) else -1)) zNo := by
  refine z_start rfl (Nat.le_of_ble_eq_true rfl) hI ?_
  intro p e s m below meth c ls C hr hlocks hl hP
  have hl : lv_has ls 7 [(0, .ref (a 100)), (1, .int (iI rr)), (2, .int (iI wh))] := hl
  refine z_aload_n C hl 0 rfl dX8_strong_0 ?_
  refine z_iload_n C hl 1 rfl dX8_strong_1 ?_
  refine z_vSi C hP (As := [.int (iI rr)]) lk_X8_110 (c_X8_isThere hI σ rr r1 hrb) ob_100 rfl rfl rfl hl.1 rfl (Nat.le_of_ble_eq_true rfl) ⟨Nat.le_of_ble_eq_true rfl, Nat.le_of_ble_eq_true rfl⟩ ⟨Nat.zero_le _, Nat.zero_le _⟩ dX8_strong_2 ?_
  by_cases b_2 : 0 ≤ rr ∧ rr ≤ 3 ∧ mBit (σ 100 0) rr = 1
  · rw [show (if 0 ≤ rr ∧ rr ≤ 3 ∧ mBit (σ 100 0) rr = 1 then (1 : Int) else 0) = 1 from if_pos b_2]
    refine z_ifT_ne C 10 dX8_strong_5 (by decide) ⟨by decide, by decide⟩ (by decide) ?_
    refine z_iload_n C hl 2 rfl dX8_strong_10 ?_
    refine z_i2l C ⟨by omega, by omega⟩ dX8_strong_11 ?_
    refine z_lconst C (z := 0) rfl dX8_strong_12 ?_
    refine z_ldc2 C (z := 2) wd_831 (by decide +kernel) dX8_strong_13 ?_
    refine z_sSi C hP (As := [.long (jI wh), .long (jI 0), .long (jI 2)]) lk_X8_86 (c_X8_in hI σ wh 0 2 ⟨by omega, by omega⟩ ⟨by omega, by omega⟩ ⟨by omega, by omega⟩) rfl hl.1 rfl (Nat.le_of_ble_eq_true rfl) ⟨Nat.le_of_ble_eq_true rfl, Nat.le_of_ble_eq_true rfl⟩ ⟨Nat.zero_le _, Nat.zero_le _⟩ dX8_strong_16 ?_
    by_cases b_16 : 0 ≤ wh ∧ wh ≤ 2
    · rw [show (if 0 ≤ wh ∧ wh ≤ 2 then (1 : Int) else 0) = 1 from if_pos b_16]
      refine z_ifT_ne C 25 dX8_strong_19 (by decide) ⟨by decide, by decide⟩ (by decide) ?_
      refine z_iconst C dX8_strong_25 ?_
      refine z_istore_n C [1, 2, 3, 0] [(0, .ref (a 100)), (1, .int (iI rr)), (2, .int (iI wh)), (3, .int (iI 0))] hl (by decide) rfl dX8_strong_26 (fun ls hl => ?_)
      refine z_bipush C (by decide +kernel) dX8_strong_27 ?_
      refine z_istore C [1, 2, 3, 4, 0] [(0, .ref (a 100)), (1, .int (iI rr)), (2, .int (iI wh)), (3, .int (iI 0)), (4, .int (iI (-6)))] hl (by decide) rfl dX8_strong_29 (fun ls hl => ?_)
      refine z_bipush C (by decide +kernel) dX8_strong_31 ?_
      refine z_istore C [1, 2, 3, 4, 5, 0] [(0, .ref (a 100)), (1, .int (iI rr)), (2, .int (iI wh)), (3, .int (iI 0)), (4, .int (iI (-6))), (5, .int (iI (-6)))] hl (by decide) rfl dX8_strong_33 (fun ls hl => ?_)
      refine z_iconst C dX8_strong_35 ?_
      refine z_istore C [1, 2, 3, 4, 5, 6, 0] [(0, .ref (a 100)), (1, .int (iI rr)), (2, .int (iI wh)), (3, .int (iI 0)), (4, .int (iI (-6))), (5, .int (iI (-6))), (6, .int (iI 1))] hl (by decide) rfl dX8_strong_36 (fun ls hl => ?_)
      have L_38 : ∀ (n : Nat) (ft : Int) (le : Int) (gr : Int) (s0 : Int) (ls : Array Slot), (1 ≤ s0 ∧ s0 ≤ 21) → (ft = mSum (fun i => mB ((fun s0 => jHold σ rr s0) (i + 1))) (s0 - 1).toNat) → (le = mFst (fun s0 => jHold σ rr s0) (s0 - 1).toNat) → (gr = mLst (fun s0 => jHold σ rr s0) (s0 - 1).toNat) → ((21 - s0).toNat) < n → lv_has ls 7 [(0, .ref (a 100)), (1, .int (iI rr)), (2, .int (iI wh)), (3, .int (iI ft)), (4, .int (iI le)), (5, .int (iI gr)), (6, .int (iI s0))] → W p l e (zR 3) s m ([.ref (a 100), .int (iI rr), .int (iI wh)] : List Value).toArray below meth c s.heap [] 0 0 (MQ below (zSi (if 0 ≤ rr ∧ rr ≤ 3 ∧ mBit (σ 100 0) rr = 1 then (if 0 ≤ wh ∧ wh ≤ 2 then (if wh = 0 then mSum (fun i => mB ((fun s0 => jHold σ rr s0) (i + 1))) 20 else if wh = 1 then mFst (fun s0 => jHold σ rr s0) 20 else mLst (fun s0 => jHold σ rr s0) 20) else -2) else -1)) ([.ref (a 100), .int (iI rr), .int (iI wh)] : List Value).toArray s 0 0 zNo) (F0 m 38 ls []) := by
        intro n
        induction n with
        | zero =>
          intros; omega
        | succ n ih_38 =>
          intro ft le gr s0 ls is i1 i2 i3 hm hl
          have hfl := mFL_b (fun s0 => jHold σ rr s0) (s0 - 1).toNat
          rw [← i1, ← i2, ← i3] at hfl
          refine z_iload C hl 6 rfl dX8_strong_38 ?_
          refine z_bipush C (by decide +kernel) dX8_strong_40 ?_
          refine z_icmp_gt C 81 dX8_strong_42 (by decide) ⟨by omega, by omega⟩ ⟨by omega, by omega⟩ (fun c_42 => ?_) (fun c_42 => ?_)
          · refine z_iload_n C hl 2 rfl dX8_strong_81 ?_
            refine z_if_ne C 89 dX8_strong_82 (by decide) ⟨by omega, by omega⟩ (fun c_82 => ?_) (fun c_82 => ?_)
            · refine z_iload_n C hl 2 rfl dX8_strong_89 ?_
              refine z_iconst C dX8_strong_90 ?_
              refine z_icmp_ne C 99 dX8_strong_91 (by decide) ⟨by omega, by omega⟩ ⟨by omega, by omega⟩ (fun c_91 => ?_) (fun c_91 => ?_)
              · refine z_iload C hl 5 rfl dX8_strong_99 ?_
                exact z_retSi C hr hlocks rfl (by first | (rw [if_neg (by omega)]; done) | (rw [if_pos (by omega), if_neg (by omega)]; done) | (rw [if_pos (by omega), if_pos (by omega)]; rw [show (s0 - 1).toNat = 20 from (by omega)] at i1 i2 i3; first | (rw [if_pos (by omega)]; exact i1) | (rw [if_neg (by omega), if_pos (by omega)]; exact i2) | (rw [if_neg (by omega), if_neg (by omega)]; exact i3))) dX8_strong_101
              · refine z_iload C hl 4 rfl dX8_strong_94 ?_
                refine z_goto C 101 dX8_strong_96 (by decide) ?_
                exact z_retSi C hr hlocks rfl (by first | (rw [if_neg (by omega)]; done) | (rw [if_pos (by omega), if_neg (by omega)]; done) | (rw [if_pos (by omega), if_pos (by omega)]; rw [show (s0 - 1).toNat = 20 from (by omega)] at i1 i2 i3; first | (rw [if_pos (by omega)]; exact i1) | (rw [if_neg (by omega), if_pos (by omega)]; exact i2) | (rw [if_neg (by omega), if_neg (by omega)]; exact i3))) dX8_strong_101
            · refine z_iload_n C hl 3 rfl dX8_strong_85 ?_
              refine z_goto C 101 dX8_strong_86 (by decide) ?_
              exact z_retSi C hr hlocks rfl (by first | (rw [if_neg (by omega)]; done) | (rw [if_pos (by omega), if_neg (by omega)]; done) | (rw [if_pos (by omega), if_pos (by omega)]; rw [show (s0 - 1).toNat = 20 from (by omega)] at i1 i2 i3; first | (rw [if_pos (by omega)]; exact i1) | (rw [if_neg (by omega), if_pos (by omega)]; exact i2) | (rw [if_neg (by omega), if_neg (by omega)]; exact i3))) dX8_strong_101
          · refine z_aload_n C hl 0 rfl dX8_strong_45 ?_
            refine z_iload_n C hl 1 rfl dX8_strong_46 ?_
            refine z_iload C hl 6 rfl dX8_strong_47 ?_
            refine z_vSi C hP (As := [.int (iI rr), .int (iI s0)]) lk_X8_306 (c_X8_holds hI σ rr s0 htm hti ⟨by omega, by omega⟩ ⟨by omega, by omega⟩) ob_100 rfl rfl rfl hl.1 rfl (Nat.le_of_ble_eq_true rfl) ⟨Nat.le_of_ble_eq_true rfl, Nat.le_of_ble_eq_true rfl⟩ ⟨Nat.zero_le _, Nat.zero_le _⟩ dX8_strong_49 ?_
            by_cases b_49 : jHold σ rr s0
            · rw [show (mB (jHold σ rr s0)) = 1 from mB_t b_49]
              refine z_ifF_eq C 75 dX8_strong_52 (by decide) ⟨by decide, by decide⟩ (by decide) ?_
              refine z_iload_n C hl 3 rfl dX8_strong_55 ?_
              refine z_if_ne C 64 dX8_strong_56 (by decide) ⟨by omega, by omega⟩ (fun c_56 => ?_) (fun c_56 => ?_)
              · refine z_iload C hl 4 rfl dX8_strong_64 ?_
                refine z_istore C [1, 2, 3, 4, 0, 5, 6] [(0, .ref (a 100)), (1, .int (iI rr)), (2, .int (iI wh)), (3, .int (iI ft)), (4, .int (iI le)), (5, .int (iI gr)), (6, .int (iI s0))] hl (by decide) rfl dX8_strong_66 (fun ls hl => ?_)
                refine z_iload C hl 6 rfl dX8_strong_68 ?_
                refine z_istore C [1, 2, 3, 4, 5, 0, 6] [(0, .ref (a 100)), (1, .int (iI rr)), (2, .int (iI wh)), (3, .int (iI ft)), (4, .int (iI le)), (5, .int (iI s0)), (6, .int (iI s0))] hl (by decide) rfl dX8_strong_70 (fun ls hl => ?_)
                refine z_iinc C 3 [1, 2, 3, 0, 4, 5, 6] [(0, .ref (a 100)), (1, .int (iI rr)), (2, .int (iI wh)), (3, .int (iI (ft + 1))), (4, .int (iI le)), (5, .int (iI s0)), (6, .int (iI s0))] hl rfl (by decide) rfl dX8_strong_72 (fun ls hl => ?_)
                refine z_iinc C 6 [1, 2, 3, 4, 5, 6, 0] [(0, .ref (a 100)), (1, .int (iI rr)), (2, .int (iI wh)), (3, .int (iI (ft + 1))), (4, .int (iI le)), (5, .int (iI s0)), (6, .int (iI (s0 + 1)))] hl rfl (by decide) rfl dX8_strong_75 (fun ls hl => ?_)
                refine z_goto C 38 dX8_strong_78 (by decide) ?_
                exact ih_38 (ft + 1) le s0 (s0 + 1) ls (by omega) (by rw [show s0 + 1 - 1 = s0 from (by omega), mFit_s _ (by omega), ← i1]; first | (rw [mB_t b_49]; done) | (rw [mB_f b_49]; omega)) (by rw [show s0 + 1 - 1 = s0 from (by omega)]; first | (rw [mFst_t (by omega) b_49, ← i1, ← i2]; first | (rw [if_pos (by omega)]; done) | (rw [if_neg (by omega)]; done)) | (rw [mFst_f (by omega) b_49]; exact i2)) (by rw [show s0 + 1 - 1 = s0 from (by omega)]; first | (rw [mLst_t (by omega) b_49]; done) | (rw [mLst_f (by omega) b_49]; exact i3)) (by omega) (lv_sub hl [0, 1, 2, 3, 4, 5, 6] rfl)
              · refine z_iload C hl 6 rfl dX8_strong_59 ?_
                refine z_goto C 66 dX8_strong_61 (by decide) ?_
                refine z_istore C [1, 2, 3, 4, 0, 5, 6] [(0, .ref (a 100)), (1, .int (iI rr)), (2, .int (iI wh)), (3, .int (iI ft)), (4, .int (iI s0)), (5, .int (iI gr)), (6, .int (iI s0))] hl (by decide) rfl dX8_strong_66 (fun ls hl => ?_)
                refine z_iload C hl 6 rfl dX8_strong_68 ?_
                refine z_istore C [1, 2, 3, 4, 5, 0, 6] [(0, .ref (a 100)), (1, .int (iI rr)), (2, .int (iI wh)), (3, .int (iI ft)), (4, .int (iI s0)), (5, .int (iI s0)), (6, .int (iI s0))] hl (by decide) rfl dX8_strong_70 (fun ls hl => ?_)
                refine z_iinc C 3 [1, 2, 3, 0, 4, 5, 6] [(0, .ref (a 100)), (1, .int (iI rr)), (2, .int (iI wh)), (3, .int (iI (ft + 1))), (4, .int (iI s0)), (5, .int (iI s0)), (6, .int (iI s0))] hl rfl (by decide) rfl dX8_strong_72 (fun ls hl => ?_)
                refine z_iinc C 6 [1, 2, 3, 4, 5, 6, 0] [(0, .ref (a 100)), (1, .int (iI rr)), (2, .int (iI wh)), (3, .int (iI (ft + 1))), (4, .int (iI s0)), (5, .int (iI s0)), (6, .int (iI (s0 + 1)))] hl rfl (by decide) rfl dX8_strong_75 (fun ls hl => ?_)
                refine z_goto C 38 dX8_strong_78 (by decide) ?_
                exact ih_38 (ft + 1) s0 s0 (s0 + 1) ls (by omega) (by rw [show s0 + 1 - 1 = s0 from (by omega), mFit_s _ (by omega), ← i1]; first | (rw [mB_t b_49]; done) | (rw [mB_f b_49]; omega)) (by rw [show s0 + 1 - 1 = s0 from (by omega)]; first | (rw [mFst_t (by omega) b_49, ← i1, ← i2]; first | (rw [if_pos (by omega)]; done) | (rw [if_neg (by omega)]; done)) | (rw [mFst_f (by omega) b_49]; exact i2)) (by rw [show s0 + 1 - 1 = s0 from (by omega)]; first | (rw [mLst_t (by omega) b_49]; done) | (rw [mLst_f (by omega) b_49]; exact i3)) (by omega) (lv_sub hl [0, 1, 2, 3, 4, 5, 6] rfl)
            · rw [show (mB (jHold σ rr s0)) = 0 from mB_f b_49]
              refine z_ifT_eq C 75 dX8_strong_52 (by decide) ⟨by decide, by decide⟩ (by decide) ?_
              refine z_iinc C 6 [1, 2, 3, 4, 5, 6, 0] [(0, .ref (a 100)), (1, .int (iI rr)), (2, .int (iI wh)), (3, .int (iI ft)), (4, .int (iI le)), (5, .int (iI gr)), (6, .int (iI (s0 + 1)))] hl rfl (by decide) rfl dX8_strong_75 (fun ls hl => ?_)
              refine z_goto C 38 dX8_strong_78 (by decide) ?_
              exact ih_38 ft le gr (s0 + 1) ls (by omega) (by rw [show s0 + 1 - 1 = s0 from (by omega), mFit_s _ (by omega), ← i1]; first | (rw [mB_t b_49]; done) | (rw [mB_f b_49]; omega)) (by rw [show s0 + 1 - 1 = s0 from (by omega)]; first | (rw [mFst_t (by omega) b_49, ← i1, ← i2]; first | (rw [if_pos (by omega)]; done) | (rw [if_neg (by omega)]; done)) | (rw [mFst_f (by omega) b_49]; exact i2)) (by rw [show s0 + 1 - 1 = s0 from (by omega)]; first | (rw [mLst_t (by omega) b_49]; done) | (rw [mLst_f (by omega) b_49]; exact i3)) (by omega) (lv_sub hl [0, 1, 2, 3, 4, 5, 6] rfl)
      exact L_38 _ 0 (-6) (-6) 1 ls (by omega) (by rfl) (by rfl) (by rfl) (Nat.lt_succ_self _) (lv_sub hl [0, 1, 2, 3, 4, 5, 6] rfl)
    · rw [show (if 0 ≤ wh ∧ wh ≤ 2 then (1 : Int) else 0) = 0 from if_neg b_16]
      refine z_ifF_ne C 25 dX8_strong_19 (by decide) ⟨by decide, by decide⟩ (by decide) ?_
      refine z_bipush C (by decide +kernel) dX8_strong_22 ?_
      exact z_retSi C hr hlocks rfl (by first | (rw [if_neg (by omega)]; done) | (rw [if_pos (by omega), if_neg (by omega)]; done) | (rw [if_pos (by omega), if_pos (by omega)]; rw [show (s0 - 1).toNat = 20 from (by omega)] at i1 i2 i3; first | (rw [if_pos (by omega)]; exact i1) | (rw [if_neg (by omega), if_pos (by omega)]; exact i2) | (rw [if_neg (by omega), if_neg (by omega)]; exact i3))) dX8_strong_24
  · rw [show (if 0 ≤ rr ∧ rr ≤ 3 ∧ mBit (σ 100 0) rr = 1 then (1 : Int) else 0) = 0 from if_neg b_2]
    refine z_ifF_ne C 10 dX8_strong_5 (by decide) ⟨by decide, by decide⟩ (by decide) ?_
    refine z_iconst C dX8_strong_8 ?_
    exact z_retSi C hr hlocks rfl (by first | (rw [if_neg (by omega)]; done) | (rw [if_pos (by omega), if_neg (by omega)]; done) | (rw [if_pos (by omega), if_pos (by omega)]; rw [show (s0 - 1).toNat = 20 from (by omega)] at i1 i2 i3; first | (rw [if_pos (by omega)]; exact i1) | (rw [if_neg (by omega), if_pos (by omega)]; exact i2) | (rw [if_neg (by omega), if_neg (by omega)]; exact i3))) dX8_strong_9

def jYv (σ : zS) (seed i : Int) : Int := jSA σ (6 * (1 + mYx seed (i + 1).toNat % 3)) (4 + mYx seed (i + 1).toNat / 3 % 7)
set_option maxRecDepth 20000 in
set_option maxHeartbeats 4000000 in
theorem c_X8_year {l : Launch} {D : va_G} {Y : Nat → ClassId} {a : Int → Nat} (hI : zI a) (σ : zS) (seed n0 wh : Int) (r1 : R3 seed) (r2 : R3 n0) (r3 : R3 wh) (hrb : 0 ≤ σ 100 0 ∧ σ 100 0 ≤ 15) (hse : (0 ≤ σ 100 5 ∧ σ 100 5 ≤ 3) ∧ (0 ≤ σ 100 6 ∧ σ 100 6 ≤ 3)) (hnm : 1 ≤ σ 100 11 ∧ σ 100 11 ≤ 24) (hrd : ∀ r : Int, 0 ≤ r → r ≤ 3 → (0 ≤ σ 101 r ∧ σ 101 r ≤ 20) ∧ (0 ≤ σ 102 r ∧ σ 102 r ≤ 10) ∧ (0 ≤ σ 103 r ∧ σ 103 r ≤ 9)) (hch : ∀ i : Int, 0 ≤ i → i < 24 → 0 ≤ σ 105 i ∧ σ 105 i ≤ 200) : zMet l yX8_year cX8_year 11 (some .int) 4 (zPc D Y a σ [.ref (a 100), .int (iI seed), .int (iI n0), .int (iI wh)]) (zSi (if mBit (σ 100 0) (σ 100 5) = 1 ∧ mBit (σ 100 0) (σ 100 6) = 1 ∧ σ 100 5 ≠ σ 100 6 then (if (0 ≤ seed ∧ seed ≤ 9999) ∧ (1 ≤ n0 ∧ n0 ≤ 99) ∧ 0 ≤ wh ∧ wh ≤ 2 then (if wh = 0 then mSum (jYv σ seed) n0.toNat else if wh = 1 then mMnS 1000000 (jYv σ seed) n0.toNat else mMxS 0 (jYv σ seed) n0.toNat) else -2) else -3)) zNo := by
  refine z_start rfl (Nat.le_of_ble_eq_true rfl) hI ?_
  intro p e s m below meth c ls C hr hlocks hl hP
  have hl : lv_has ls 11 [(0, .ref (a 100)), (1, .int (iI seed)), (2, .int (iI n0)), (3, .int (iI wh))] := hl
  refine z_aload_n C hl 0 rfl dX8_year_0 ?_
  refine z_vSi C hP (As := []) lk_X8_206 (c_X8_isNobody hI σ  hrb hse) ob_100 rfl rfl rfl hl.1 rfl (Nat.le_of_ble_eq_true rfl) ⟨Nat.le_of_ble_eq_true rfl, Nat.le_of_ble_eq_true rfl⟩ ⟨Nat.zero_le _, Nat.zero_le _⟩ dX8_year_1 ?_
  by_cases b_1 : ¬ (mBit (σ 100 0) (σ 100 5) = 1 ∧ mBit (σ 100 0) (σ 100 6) = 1 ∧ σ 100 5 ≠ σ 100 6)
  · rw [show (if ¬ (mBit (σ 100 0) (σ 100 5) = 1 ∧ mBit (σ 100 0) (σ 100 6) = 1 ∧ σ 100 5 ≠ σ 100 6) then (1 : Int) else 0) = 1 from if_pos b_1]
    refine z_ifF_eq C 10 dX8_year_4 (by decide) ⟨by decide, by decide⟩ (by decide) ?_
    refine z_bipush C (by decide +kernel) dX8_year_7 ?_
    exact z_retSi C hr hlocks rfl (by rw [if_neg b_1]) dX8_year_9
  · rw [show (if ¬ (mBit (σ 100 0) (σ 100 5) = 1 ∧ mBit (σ 100 0) (σ 100 6) = 1 ∧ σ 100 5 ≠ σ 100 6) then (1 : Int) else 0) = 0 from if_neg b_1]
    refine z_ifT_eq C 10 dX8_year_4 (by decide) ⟨by decide, by decide⟩ (by decide) ?_
    refine z_iload_n C hl 1 rfl dX8_year_10 ?_
    refine z_i2l C ⟨by omega, by omega⟩ dX8_year_11 ?_
    refine z_lconst C (z := 0) rfl dX8_year_12 ?_
    refine z_ldc2 C (z := 9999) wd_779 (by decide +kernel) dX8_year_13 ?_
    refine z_sSi C hP (As := [.long (jI seed), .long (jI 0), .long (jI 9999)]) lk_X8_86 (c_X8_in hI σ seed 0 9999 ⟨by omega, by omega⟩ ⟨by omega, by omega⟩ ⟨by omega, by omega⟩) rfl hl.1 rfl (Nat.le_of_ble_eq_true rfl) ⟨Nat.le_of_ble_eq_true rfl, Nat.le_of_ble_eq_true rfl⟩ ⟨Nat.zero_le _, Nat.zero_le _⟩ dX8_year_16 ?_
    by_cases b_16 : 0 ≤ seed ∧ seed ≤ 9999
    · rw [show (if 0 ≤ seed ∧ seed ≤ 9999 then (1 : Int) else 0) = 1 from if_pos b_16]
      refine z_ifF_eq C 46 dX8_year_19 (by decide) ⟨by decide, by decide⟩ (by decide) ?_
      refine z_iload_n C hl 2 rfl dX8_year_22 ?_
      refine z_i2l C ⟨by omega, by omega⟩ dX8_year_23 ?_
      refine z_lconst C (z := 1) rfl dX8_year_24 ?_
      refine z_ldc2 C (z := 99) wd_214 (by decide +kernel) dX8_year_25 ?_
      refine z_sSi C hP (As := [.long (jI n0), .long (jI 1), .long (jI 99)]) lk_X8_86 (c_X8_in hI σ n0 1 99 ⟨by omega, by omega⟩ ⟨by omega, by omega⟩ ⟨by omega, by omega⟩) rfl hl.1 rfl (Nat.le_of_ble_eq_true rfl) ⟨Nat.le_of_ble_eq_true rfl, Nat.le_of_ble_eq_true rfl⟩ ⟨Nat.zero_le _, Nat.zero_le _⟩ dX8_year_28 ?_
      by_cases b_28 : 1 ≤ n0 ∧ n0 ≤ 99
      · rw [show (if 1 ≤ n0 ∧ n0 ≤ 99 then (1 : Int) else 0) = 1 from if_pos b_28]
        refine z_ifF_eq C 46 dX8_year_31 (by decide) ⟨by decide, by decide⟩ (by decide) ?_
        refine z_iload_n C hl 3 rfl dX8_year_34 ?_
        refine z_i2l C ⟨by omega, by omega⟩ dX8_year_35 ?_
        refine z_lconst C (z := 0) rfl dX8_year_36 ?_
        refine z_ldc2 C (z := 2) wd_831 (by decide +kernel) dX8_year_37 ?_
        refine z_sSi C hP (As := [.long (jI wh), .long (jI 0), .long (jI 2)]) lk_X8_86 (c_X8_in hI σ wh 0 2 ⟨by omega, by omega⟩ ⟨by omega, by omega⟩ ⟨by omega, by omega⟩) rfl hl.1 rfl (Nat.le_of_ble_eq_true rfl) ⟨Nat.le_of_ble_eq_true rfl, Nat.le_of_ble_eq_true rfl⟩ ⟨Nat.zero_le _, Nat.zero_le _⟩ dX8_year_40 ?_
        by_cases b_40 : 0 ≤ wh ∧ wh ≤ 2
        · rw [show (if 0 ≤ wh ∧ wh ≤ 2 then (1 : Int) else 0) = 1 from if_pos b_40]
          refine z_ifT_ne C 49 dX8_year_43 (by decide) ⟨by decide, by decide⟩ (by decide) ?_
          refine z_iload_n C hl 1 rfl dX8_year_49 ?_
          refine z_istore C [1, 2, 3, 4, 0] [(0, .ref (a 100)), (1, .int (iI seed)), (2, .int (iI n0)), (3, .int (iI wh)), (4, .int (iI seed))] hl (by decide) rfl dX8_year_50 (fun ls hl => ?_)
          refine z_iconst C dX8_year_52 ?_
          refine z_istore C [1, 2, 3, 4, 5, 0] [(0, .ref (a 100)), (1, .int (iI seed)), (2, .int (iI n0)), (3, .int (iI wh)), (4, .int (iI seed)), (5, .int (iI 0))] hl (by decide) rfl dX8_year_53 (fun ls hl => ?_)
          refine z_ldc C (z := 1000000) wd_556 (by decide +kernel) dX8_year_55 ?_
          refine z_istore C [1, 2, 3, 4, 5, 6, 0] [(0, .ref (a 100)), (1, .int (iI seed)), (2, .int (iI n0)), (3, .int (iI wh)), (4, .int (iI seed)), (5, .int (iI 0)), (6, .int (iI 1000000))] hl (by decide) rfl dX8_year_57 (fun ls hl => ?_)
          refine z_iconst C dX8_year_59 ?_
          refine z_istore C [1, 2, 3, 4, 5, 6, 7, 0] [(0, .ref (a 100)), (1, .int (iI seed)), (2, .int (iI n0)), (3, .int (iI wh)), (4, .int (iI seed)), (5, .int (iI 0)), (6, .int (iI 1000000)), (7, .int (iI 0))] hl (by decide) rfl dX8_year_60 (fun ls hl => ?_)
          refine z_iconst C dX8_year_62 ?_
          refine z_istore C [1, 2, 3, 4, 5, 6, 7, 8, 0] [(0, .ref (a 100)), (1, .int (iI seed)), (2, .int (iI n0)), (3, .int (iI wh)), (4, .int (iI seed)), (5, .int (iI 0)), (6, .int (iI 1000000)), (7, .int (iI 0)), (8, .int (iI 0))] hl (by decide) rfl dX8_year_63 (fun ls hl => ?_)
          have L_65 : ∀ (n : Nat) (x : Int) (sm : Int) (ls0 : Int) (gr : Int) (i : Int) (ls : Array Slot), (0 ≤ i ∧ i ≤ n0) → (x = mYx seed i.toNat) → (sm = mSum (jYv σ seed) i.toNat) → (ls0 = mMnS 1000000 (jYv σ seed) i.toNat) → (gr = mMxS 0 (jYv σ seed) i.toNat) → (0 ≤ sm ∧ sm ≤ 5784 * i) → (0 ≤ ls0 ∧ ls0 ≤ 1000000) → (0 ≤ gr ∧ gr ≤ 5784) → ((n0 - i).toNat) < n → lv_has ls 11 [(0, .ref (a 100)), (1, .int (iI seed)), (2, .int (iI n0)), (3, .int (iI wh)), (4, .int (iI x)), (5, .int (iI sm)), (6, .int (iI ls0)), (7, .int (iI gr)), (8, .int (iI i))] → W p l e (zR 4) s m ([.ref (a 100), .int (iI seed), .int (iI n0), .int (iI wh)] : List Value).toArray below meth c s.heap [] 0 0 (MQ below (zSi (if mBit (σ 100 0) (σ 100 5) = 1 ∧ mBit (σ 100 0) (σ 100 6) = 1 ∧ σ 100 5 ≠ σ 100 6 then (if (0 ≤ seed ∧ seed ≤ 9999) ∧ (1 ≤ n0 ∧ n0 ≤ 99) ∧ 0 ≤ wh ∧ wh ≤ 2 then (if wh = 0 then mSum (jYv σ seed) n0.toNat else if wh = 1 then mMnS 1000000 (jYv σ seed) n0.toNat else mMxS 0 (jYv σ seed) n0.toNat) else -2) else -3)) ([.ref (a 100), .int (iI seed), .int (iI n0), .int (iI wh)] : List Value).toArray s 0 0 zNo) (F0 m 65 ls []) := by
            intro n
            induction n with
            | zero =>
              intros; omega
            | succ n ih_65 =>
              intro x sm ls0 gr i ls ii ix i1 i2 i3 b1 b2 b3 hm hl
              have hxb := mYx_b (seed := seed) (by omega) i.toNat
              rw [← ix] at hxb
              refine z_iload C hl 8 rfl dX8_year_65 ?_
              refine z_iload_n C hl 2 rfl dX8_year_67 ?_
              refine z_icmp_ge C 162 dX8_year_68 (by decide) ⟨by omega, by omega⟩ ⟨by omega, by omega⟩ (fun c_68 => ?_) (fun c_68 => ?_)
              · refine z_iload_n C hl 3 rfl dX8_year_162 ?_
                refine z_if_ne C 171 dX8_year_163 (by decide) ⟨by omega, by omega⟩ (fun c_163 => ?_) (fun c_163 => ?_)
                · refine z_iload_n C hl 3 rfl dX8_year_171 ?_
                  refine z_iconst C dX8_year_172 ?_
                  refine z_icmp_ne C 181 dX8_year_173 (by decide) ⟨by omega, by omega⟩ ⟨by omega, by omega⟩ (fun c_173 => ?_) (fun c_173 => ?_)
                  · refine z_iload C hl 7 rfl dX8_year_181 ?_
                    exact z_retSi C hr hlocks rfl (by rw [if_pos (Classical.byContradiction b_1), if_pos (by omega)]; rw [show i = n0 from (by omega)] at i1 i2 i3; first | (rw [if_pos (by omega)]; exact i1) | (rw [if_neg (by omega), if_pos (by omega)]; exact i2) | (rw [if_neg (by omega), if_neg (by omega)]; exact i3)) dX8_year_183
                  · refine z_iload C hl 6 rfl dX8_year_176 ?_
                    refine z_goto C 183 dX8_year_178 (by decide) ?_
                    exact z_retSi C hr hlocks rfl (by rw [if_pos (Classical.byContradiction b_1), if_pos (by omega)]; rw [show i = n0 from (by omega)] at i1 i2 i3; first | (rw [if_pos (by omega)]; exact i1) | (rw [if_neg (by omega), if_pos (by omega)]; exact i2) | (rw [if_neg (by omega), if_neg (by omega)]; exact i3)) dX8_year_183
                · refine z_iload C hl 5 rfl dX8_year_166 ?_
                  refine z_goto C 183 dX8_year_168 (by decide) ?_
                  exact z_retSi C hr hlocks rfl (by rw [if_pos (Classical.byContradiction b_1), if_pos (by omega)]; rw [show i = n0 from (by omega)] at i1 i2 i3; first | (rw [if_pos (by omega)]; exact i1) | (rw [if_neg (by omega), if_pos (by omega)]; exact i2) | (rw [if_neg (by omega), if_neg (by omega)]; exact i3)) dX8_year_183
              · refine z_ldc2 C (z := 75) wd_845 (by decide +kernel) dX8_year_71 ?_
                refine z_iload C hl 4 rfl dX8_year_74 ?_
                refine z_i2l C ⟨by omega, by omega⟩ dX8_year_76 ?_
                refine z_lmul C dX8_year_77 ?_
                refine z_ldc2 C (z := 74) wd_846 (by decide +kernel) dX8_year_78 ?_
                refine z_ladd C dX8_year_81 ?_
                refine z_ldc2 C (z := 65537) wd_847 (by decide +kernel) dX8_year_82 ?_
                refine z_lrem C ⟨by omega, by omega, by omega, by omega⟩ dX8_year_85 ?_
                refine z_l2i C dX8_year_86 ?_
                refine z_topi (fun x1 hx1 => ?_)
                refine z_istore C [1, 2, 3, 4, 0, 5, 6, 7, 8] [(0, .ref (a 100)), (1, .int (iI seed)), (2, .int (iI n0)), (3, .int (iI wh)), (4, .int (iI x1)), (5, .int (iI sm)), (6, .int (iI ls0)), (7, .int (iI gr)), (8, .int (iI i))] hl (by decide) rfl dX8_year_87 (fun ls hl => ?_)
                refine z_iconst C dX8_year_89 ?_
                refine z_iload C hl 4 rfl dX8_year_90 ?_
                refine z_iconst C dX8_year_92 ?_
                refine z_irem C ⟨by omega, by omega, by omega, by omega⟩ dX8_year_93 ?_
                refine z_iadd C dX8_year_94 ?_
                refine z_topi (fun x2 hx2 => ?_)
                refine z_istore C [1, 2, 3, 4, 5, 6, 7, 8, 9, 0] [(0, .ref (a 100)), (1, .int (iI seed)), (2, .int (iI n0)), (3, .int (iI wh)), (4, .int (iI x1)), (5, .int (iI sm)), (6, .int (iI ls0)), (7, .int (iI gr)), (8, .int (iI i)), (9, .int (iI x2))] hl (by decide) rfl dX8_year_95 (fun ls hl => ?_)
                refine z_aload_n C hl 0 rfl dX8_year_97 ?_
                refine z_bipush C (by decide +kernel) dX8_year_98 ?_
                refine z_iload C hl 9 rfl dX8_year_100 ?_
                refine z_imul C dX8_year_102 ?_
                refine z_iconst C dX8_year_103 ?_
                refine z_iload C hl 4 rfl dX8_year_104 ?_
                refine z_iconst C dX8_year_106 ?_
                refine z_idiv C ⟨by omega, by omega, by omega, by omega⟩ dX8_year_107 ?_
                refine z_bipush C (by decide +kernel) dX8_year_108 ?_
                refine z_irem C ⟨by omega, by omega, by omega, by omega⟩ dX8_year_110 ?_
                refine z_iadd C dX8_year_111 ?_
                refine z_vSi C hP (As := [.int (iI (6 * x2)), .int (iI (4 + ((x1 / 3) % 7)))]) lk_X8_255 (c_X8_secondsAt hI σ (6 * x2) (4 + ((x1 / 3) % 7)) hse hnm hrd hch ⟨by omega, by omega⟩ ⟨by omega, by omega⟩) ob_100 rfl rfl rfl hl.1 rfl (Nat.le_of_ble_eq_true rfl) ⟨Nat.le_of_ble_eq_true rfl, Nat.le_of_ble_eq_true rfl⟩ ⟨Nat.zero_le _, Nat.zero_le _⟩ dX8_year_112 ?_
                have hqb := jSA_b σ (6 * x2) (4 + x1 / 3 % 7) hnm
                refine z_topi (fun x3 hx3 => ?_)
                refine z_istore C [1, 2, 3, 4, 5, 6, 7, 8, 9, 10, 0] [(0, .ref (a 100)), (1, .int (iI seed)), (2, .int (iI n0)), (3, .int (iI wh)), (4, .int (iI x1)), (5, .int (iI sm)), (6, .int (iI ls0)), (7, .int (iI gr)), (8, .int (iI i)), (9, .int (iI x2)), (10, .int (iI x3))] hl (by decide) rfl dX8_year_115 (fun ls hl => ?_)
                have hv : x3 = jYv σ seed i := by unfold jYv; rw [mYx_s _ ii.1, ← ix]; subst_vars; rfl
                refine z_iload C hl 5 rfl dX8_year_117 ?_
                refine z_iload C hl 10 rfl dX8_year_119 ?_
                refine z_iadd C dX8_year_121 ?_
                refine z_topi (fun x4 hx4 => ?_)
                refine z_istore C [1, 2, 3, 4, 5, 0, 6, 7, 8, 9, 10] [(0, .ref (a 100)), (1, .int (iI seed)), (2, .int (iI n0)), (3, .int (iI wh)), (4, .int (iI x1)), (5, .int (iI x4)), (6, .int (iI ls0)), (7, .int (iI gr)), (8, .int (iI i)), (9, .int (iI x2)), (10, .int (iI x3))] hl (by decide) rfl dX8_year_122 (fun ls hl => ?_)
                refine z_iload C hl 10 rfl dX8_year_124 ?_
                refine z_iload C hl 6 rfl dX8_year_126 ?_
                refine z_icmp_ge C 136 dX8_year_128 (by decide) ⟨by omega, by omega⟩ ⟨by omega, by omega⟩ (fun c_128 => ?_) (fun c_128 => ?_)
                · refine z_iload C hl 6 rfl dX8_year_136 ?_
                  refine z_istore C [1, 2, 3, 4, 5, 6, 0, 7, 8, 9, 10] [(0, .ref (a 100)), (1, .int (iI seed)), (2, .int (iI n0)), (3, .int (iI wh)), (4, .int (iI x1)), (5, .int (iI x4)), (6, .int (iI ls0)), (7, .int (iI gr)), (8, .int (iI i)), (9, .int (iI x2)), (10, .int (iI x3))] hl (by decide) rfl dX8_year_138 (fun ls hl => ?_)
                  refine z_iload C hl 10 rfl dX8_year_140 ?_
                  refine z_iload C hl 7 rfl dX8_year_142 ?_
                  refine z_icmp_le C 152 dX8_year_144 (by decide) ⟨by omega, by omega⟩ ⟨by omega, by omega⟩ (fun c_144 => ?_) (fun c_144 => ?_)
                  · refine z_iload C hl 7 rfl dX8_year_152 ?_
                    refine z_istore C [1, 2, 3, 4, 5, 6, 7, 0, 8, 9, 10] [(0, .ref (a 100)), (1, .int (iI seed)), (2, .int (iI n0)), (3, .int (iI wh)), (4, .int (iI x1)), (5, .int (iI x4)), (6, .int (iI ls0)), (7, .int (iI gr)), (8, .int (iI i)), (9, .int (iI x2)), (10, .int (iI x3))] hl (by decide) rfl dX8_year_154 (fun ls hl => ?_)
                    refine z_iinc C 8 [1, 2, 3, 4, 5, 6, 7, 8, 0, 9, 10] [(0, .ref (a 100)), (1, .int (iI seed)), (2, .int (iI n0)), (3, .int (iI wh)), (4, .int (iI x1)), (5, .int (iI x4)), (6, .int (iI ls0)), (7, .int (iI gr)), (8, .int (iI (i + 1))), (9, .int (iI x2)), (10, .int (iI x3))] hl rfl (by decide) rfl dX8_year_156 (fun ls hl => ?_)
                    refine z_goto C 65 dX8_year_159 (by decide) ?_
                    exact ih_65 x1 x4 ls0 gr (i + 1) ls (by omega) (by rw [mYx_s _ ii.1, ← ix]; omega) (by rw [mSum_s _ ii.1, ← i1, ← hv]; omega) (by rw [mMnS_s _ _ ii.1, ← i2, ← hv]; omega) (by rw [mMxS_s _ _ ii.1, ← i3, ← hv]; omega) (by omega) (by omega) (by omega) (by omega) (lv_sub hl [0, 1, 2, 3, 4, 5, 6, 7, 8] rfl)
                  · refine z_iload C hl 10 rfl dX8_year_147 ?_
                    refine z_goto C 154 dX8_year_149 (by decide) ?_
                    refine z_istore C [1, 2, 3, 4, 5, 6, 7, 0, 8, 9, 10] [(0, .ref (a 100)), (1, .int (iI seed)), (2, .int (iI n0)), (3, .int (iI wh)), (4, .int (iI x1)), (5, .int (iI x4)), (6, .int (iI ls0)), (7, .int (iI x3)), (8, .int (iI i)), (9, .int (iI x2)), (10, .int (iI x3))] hl (by decide) rfl dX8_year_154 (fun ls hl => ?_)
                    refine z_iinc C 8 [1, 2, 3, 4, 5, 6, 7, 8, 0, 9, 10] [(0, .ref (a 100)), (1, .int (iI seed)), (2, .int (iI n0)), (3, .int (iI wh)), (4, .int (iI x1)), (5, .int (iI x4)), (6, .int (iI ls0)), (7, .int (iI x3)), (8, .int (iI (i + 1))), (9, .int (iI x2)), (10, .int (iI x3))] hl rfl (by decide) rfl dX8_year_156 (fun ls hl => ?_)
                    refine z_goto C 65 dX8_year_159 (by decide) ?_
                    exact ih_65 x1 x4 ls0 x3 (i + 1) ls (by omega) (by rw [mYx_s _ ii.1, ← ix]; omega) (by rw [mSum_s _ ii.1, ← i1, ← hv]; omega) (by rw [mMnS_s _ _ ii.1, ← i2, ← hv]; omega) (by rw [mMxS_s _ _ ii.1, ← i3, ← hv]; omega) (by omega) (by omega) (by omega) (by omega) (lv_sub hl [0, 1, 2, 3, 4, 5, 6, 7, 8] rfl)
                · refine z_iload C hl 10 rfl dX8_year_131 ?_
                  refine z_goto C 138 dX8_year_133 (by decide) ?_
                  refine z_istore C [1, 2, 3, 4, 5, 6, 0, 7, 8, 9, 10] [(0, .ref (a 100)), (1, .int (iI seed)), (2, .int (iI n0)), (3, .int (iI wh)), (4, .int (iI x1)), (5, .int (iI x4)), (6, .int (iI x3)), (7, .int (iI gr)), (8, .int (iI i)), (9, .int (iI x2)), (10, .int (iI x3))] hl (by decide) rfl dX8_year_138 (fun ls hl => ?_)
                  refine z_iload C hl 10 rfl dX8_year_140 ?_
                  refine z_iload C hl 7 rfl dX8_year_142 ?_
                  refine z_icmp_le C 152 dX8_year_144 (by decide) ⟨by omega, by omega⟩ ⟨by omega, by omega⟩ (fun c_144 => ?_) (fun c_144 => ?_)
                  · refine z_iload C hl 7 rfl dX8_year_152 ?_
                    refine z_istore C [1, 2, 3, 4, 5, 6, 7, 0, 8, 9, 10] [(0, .ref (a 100)), (1, .int (iI seed)), (2, .int (iI n0)), (3, .int (iI wh)), (4, .int (iI x1)), (5, .int (iI x4)), (6, .int (iI x3)), (7, .int (iI gr)), (8, .int (iI i)), (9, .int (iI x2)), (10, .int (iI x3))] hl (by decide) rfl dX8_year_154 (fun ls hl => ?_)
                    refine z_iinc C 8 [1, 2, 3, 4, 5, 6, 7, 8, 0, 9, 10] [(0, .ref (a 100)), (1, .int (iI seed)), (2, .int (iI n0)), (3, .int (iI wh)), (4, .int (iI x1)), (5, .int (iI x4)), (6, .int (iI x3)), (7, .int (iI gr)), (8, .int (iI (i + 1))), (9, .int (iI x2)), (10, .int (iI x3))] hl rfl (by decide) rfl dX8_year_156 (fun ls hl => ?_)
                    refine z_goto C 65 dX8_year_159 (by decide) ?_
                    exact ih_65 x1 x4 x3 gr (i + 1) ls (by omega) (by rw [mYx_s _ ii.1, ← ix]; omega) (by rw [mSum_s _ ii.1, ← i1, ← hv]; omega) (by rw [mMnS_s _ _ ii.1, ← i2, ← hv]; omega) (by rw [mMxS_s _ _ ii.1, ← i3, ← hv]; omega) (by omega) (by omega) (by omega) (by omega) (lv_sub hl [0, 1, 2, 3, 4, 5, 6, 7, 8] rfl)
                  · refine z_iload C hl 10 rfl dX8_year_147 ?_
                    refine z_goto C 154 dX8_year_149 (by decide) ?_
                    refine z_istore C [1, 2, 3, 4, 5, 6, 7, 0, 8, 9, 10] [(0, .ref (a 100)), (1, .int (iI seed)), (2, .int (iI n0)), (3, .int (iI wh)), (4, .int (iI x1)), (5, .int (iI x4)), (6, .int (iI x3)), (7, .int (iI x3)), (8, .int (iI i)), (9, .int (iI x2)), (10, .int (iI x3))] hl (by decide) rfl dX8_year_154 (fun ls hl => ?_)
                    refine z_iinc C 8 [1, 2, 3, 4, 5, 6, 7, 8, 0, 9, 10] [(0, .ref (a 100)), (1, .int (iI seed)), (2, .int (iI n0)), (3, .int (iI wh)), (4, .int (iI x1)), (5, .int (iI x4)), (6, .int (iI x3)), (7, .int (iI x3)), (8, .int (iI (i + 1))), (9, .int (iI x2)), (10, .int (iI x3))] hl rfl (by decide) rfl dX8_year_156 (fun ls hl => ?_)
                    refine z_goto C 65 dX8_year_159 (by decide) ?_
                    exact ih_65 x1 x4 x3 x3 (i + 1) ls (by omega) (by rw [mYx_s _ ii.1, ← ix]; omega) (by rw [mSum_s _ ii.1, ← i1, ← hv]; omega) (by rw [mMnS_s _ _ ii.1, ← i2, ← hv]; omega) (by rw [mMxS_s _ _ ii.1, ← i3, ← hv]; omega) (by omega) (by omega) (by omega) (by omega) (lv_sub hl [0, 1, 2, 3, 4, 5, 6, 7, 8] rfl)
          exact L_65 _ seed 0 1000000 0 0 ls (by omega) (by rfl) (by rfl) (by rfl) (by rfl) (by omega) (by omega) (by omega) (Nat.lt_succ_self _) (lv_sub hl [0, 1, 2, 3, 4, 5, 6, 7, 8] rfl)
        · rw [show (if 0 ≤ wh ∧ wh ≤ 2 then (1 : Int) else 0) = 0 from if_neg b_40]
          refine z_ifF_ne C 49 dX8_year_43 (by decide) ⟨by decide, by decide⟩ (by decide) ?_
          refine z_bipush C (by decide +kernel) dX8_year_46 ?_
          exact z_retSi C hr hlocks rfl (by rw [if_pos (Classical.byContradiction b_1), if_neg (by omega)]) dX8_year_48
      · rw [show (if 1 ≤ n0 ∧ n0 ≤ 99 then (1 : Int) else 0) = 0 from if_neg b_28]
        refine z_ifT_eq C 46 dX8_year_31 (by decide) ⟨by decide, by decide⟩ (by decide) ?_
        refine z_bipush C (by decide +kernel) dX8_year_46 ?_
        exact z_retSi C hr hlocks rfl (by rw [if_pos (Classical.byContradiction b_1), if_neg (by omega)]) dX8_year_48
    · rw [show (if 0 ≤ seed ∧ seed ≤ 9999 then (1 : Int) else 0) = 0 from if_neg b_16]
      refine z_ifT_eq C 46 dX8_year_19 (by decide) ⟨by decide, by decide⟩ (by decide) ?_
      refine z_bipush C (by decide +kernel) dX8_year_46 ?_
      exact z_retSi C hr hlocks rfl (by rw [if_pos (Classical.byContradiction b_1), if_neg (by omega)]) dX8_year_48

set_option maxRecDepth 20000 in
set_option maxHeartbeats 4000000 in
theorem c_X8_pass_w {l : Launch} {D : va_G} {Y : Nat → ClassId} {a : Int → Nat} (hI : zI a) (σ : zS) (v at0 : Int) (hat : σ 100 36 = at0) (hab : 0 ≤ at0 ∧ at0 < 160) (hw : σ 100 37 = 1) : zMet l yX8_pass cX8_pass 3 (some .int) 0 (zPc D Y a σ [.ref (a 100), .int (iI v)]) (zQi D Y a (fun r τ => r = v ∧ τ = zU (zU σ 118 at0 (v)) 100 36 (at0 + 1))) (inA a) := by
  refine z_start rfl (Nat.le_of_ble_eq_true rfl) hI ?_
  intro p e s m below meth c ls C hr hlocks hl hP
  have hS : va_S (inA a) s.heap s.heap [] := va_S.rf
  have hl : lv_has ls 3 [(0, .ref (a 100)), (1, .int (iI v))] := hl
  skip
  refine z_aload_n C hl 0 rfl dX8_pass_0 ?_
  refine zg_X8_315 C hP dX8_pass_1 ?_
  refine z_if_eq C 11 dX8_pass_4 (by decide) ⟨by omega, by omega⟩ (fun c_4 => ?_) (fun c_4 => ?_)
  · exfalso; omega
  · refine z_iload_n C hl 1 rfl dX8_pass_7 ?_
    refine z_goto C 20 dX8_pass_8 (by decide) ?_
    refine z_istore_n C [1, 2, 0] [(0, .ref (a 100)), (1, .int (iI v)), (2, .int (iI v))] hl (by decide) rfl dX8_pass_20 (fun ls hl => ?_)
    refine z_aload_n C hl 0 rfl dX8_pass_21 ?_
    refine zg_X8_61 C hP dX8_pass_22 ?_
    refine z_aload_n C hl 0 rfl dX8_pass_25 ?_
    refine zg_X8_319 C hP dX8_pass_26 ?_
    refine z_iload_n C hl 2 rfl dX8_pass_29 ?_
    refine z_iast C hP hS ia_118 ⟨by omega, by omega⟩ dX8_pass_30 (fun H locs hP hS => ?_)
    obtain ⟨t1, et1⟩ : ∃ z : zS, z = zU σ 118 (σ 100 36) v := ⟨_, rfl⟩
    rw [← et1] at hP
    refine z_aload_n C hl 0 rfl dX8_pass_31 ?_
    refine z_dup C rfl dX8_pass_32 ?_
    refine zg_X8_319 C hP dX8_pass_33 ?_
    rw [show t1 100 36 = σ 100 36 from by rw [et1, zU_cell (by decide)]]
    refine z_iconst C dX8_pass_36 ?_
    refine z_iadd C dX8_pass_37 ?_
    refine zp_X8_319 C hP hS dX8_pass_38 (fun H locs hP hS => ?_)
    obtain ⟨t2, et2⟩ : ∃ z : zS, z = zU t1 100 36 ((σ 100 36) + 1) := ⟨_, rfl⟩
    rw [← et2] at hP
    refine z_iload_n C hl 2 rfl dX8_pass_41 ?_
    exact z_retQi C hP hS hr hlocks rfl (by subst hat; subst_vars; exact ⟨rfl, rfl⟩) dX8_pass_42

set_option maxRecDepth 20000 in
set_option maxHeartbeats 4000000 in
theorem c_X8_pass_r {l : Launch} {D : va_G} {Y : Nat → ClassId} {a : Int → Nat} (hI : zI a) (σ : zS) (v at0 : Int) (hat : σ 100 36 = at0) (hab : 0 ≤ at0 ∧ at0 < 160) (hw : σ 100 37 = 0) : zMet l yX8_pass cX8_pass 3 (some .int) 0 (zPc D Y a σ [.ref (a 100), .int (iI v)]) (zQi D Y a (fun r τ => r = σ 118 at0 ∧ τ = zU (zU σ 118 at0 (σ 118 at0)) 100 36 (at0 + 1))) (inA a) := by
  refine z_start rfl (Nat.le_of_ble_eq_true rfl) hI ?_
  intro p e s m below meth c ls C hr hlocks hl hP
  have hS : va_S (inA a) s.heap s.heap [] := va_S.rf
  have hl : lv_has ls 3 [(0, .ref (a 100)), (1, .int (iI v))] := hl
  skip
  refine z_aload_n C hl 0 rfl dX8_pass_0 ?_
  refine zg_X8_315 C hP dX8_pass_1 ?_
  refine z_if_eq C 11 dX8_pass_4 (by decide) ⟨by omega, by omega⟩ (fun c_4 => ?_) (fun c_4 => ?_)
  · refine z_aload_n C hl 0 rfl dX8_pass_11 ?_
    refine zg_X8_61 C hP dX8_pass_12 ?_
    refine z_aload_n C hl 0 rfl dX8_pass_15 ?_
    refine zg_X8_319 C hP dX8_pass_16 ?_
    refine z_iald C hP ia_118 ⟨by omega, by omega⟩ dX8_pass_19 ?_
    refine z_topi (fun x1 hx1 => ?_)
    refine z_istore_n C [1, 2, 0] [(0, .ref (a 100)), (1, .int (iI v)), (2, .int (iI x1))] hl (by decide) rfl dX8_pass_20 (fun ls hl => ?_)
    refine z_aload_n C hl 0 rfl dX8_pass_21 ?_
    refine zg_X8_61 C hP dX8_pass_22 ?_
    refine z_aload_n C hl 0 rfl dX8_pass_25 ?_
    refine zg_X8_319 C hP dX8_pass_26 ?_
    refine z_iload_n C hl 2 rfl dX8_pass_29 ?_
    refine z_iast C hP hS ia_118 ⟨by omega, by omega⟩ dX8_pass_30 (fun H locs hP hS => ?_)
    obtain ⟨t2, et2⟩ : ∃ z : zS, z = zU σ 118 (σ 100 36) x1 := ⟨_, rfl⟩
    rw [← et2] at hP
    refine z_aload_n C hl 0 rfl dX8_pass_31 ?_
    refine z_dup C rfl dX8_pass_32 ?_
    refine zg_X8_319 C hP dX8_pass_33 ?_
    rw [show t2 100 36 = σ 100 36 from by rw [et2, zU_cell (by decide)]]
    refine z_iconst C dX8_pass_36 ?_
    refine z_iadd C dX8_pass_37 ?_
    refine zp_X8_319 C hP hS dX8_pass_38 (fun H locs hP hS => ?_)
    obtain ⟨t3, et3⟩ : ∃ z : zS, z = zU t2 100 36 ((σ 100 36) + 1) := ⟨_, rfl⟩
    rw [← et3] at hP
    refine z_iload_n C hl 2 rfl dX8_pass_41 ?_
    exact z_retQi C hP hS hr hlocks rfl (by subst hat; subst_vars; exact ⟨rfl, rfl⟩) dX8_pass_42
  · exfalso; omega

def jPc (i : Int) : Int := if i < 8 then 100 else if i < 24 then 101 + (i - 8) % 4 else if i < 48 then 105 else 106 + (i - 48) % 4
def jPj (i : Int) : Int := if i < 8 then (if i = 0 then 0 else if i = 1 then 5 else if i = 2 then 6 else if i = 3 then 7 else if i = 4 then 8 else if i = 5 then 9 else if i = 6 then 11 else 16) else if i < 24 then (i - 8) / 4 else if i < 48 then i - 24 else (i - 48) / 4
def jKv (σ : zS) (i : Int) : Int := σ (jPc i) (jPj i)
theorem jP_inj : ∀ i : Nat, i < 72 → ∀ k : Nat, k < 72 → jPc i = jPc k ∧ jPj i = jPj k → i = k := by decide +kernel
theorem jP_rng : ∀ i : Nat, i < 72 → (100 ≤ jPc i ∧ jPc i ≤ 109) ∧ (jPc i = 100 → jPj i ≠ 36 ∧ jPj i ≠ 37 ∧ 0 ≤ jPj i ∧ jPj i ≤ 16) := by decide +kernel
theorem jP_b {i : Int} (h : 0 ≤ i ∧ i < 72) : (100 ≤ jPc i ∧ jPc i ≤ 109) ∧ (jPc i = 100 → jPj i ≠ 36 ∧ jPj i ≠ 37 ∧ 0 ≤ jPj i ∧ jPj i ≤ 16) := by
  have := jP_rng i.toNat (by omega)
  rwa [Int.toNat_of_nonneg h.1] at this
theorem jP_i {i k : Int} (h : 0 ≤ i ∧ i < 72) (g : 0 ≤ k ∧ k < 72) (e : jPc i = jPc k ∧ jPj i = jPj k) : i = k := by
  have := jP_inj i.toNat (by omega) k.toNat (by omega)
  rw [Int.toNat_of_nonneg h.1, Int.toNat_of_nonneg g.1] at this
  have := this e
  omega
def jWr (bb : Int) (σ τ : zS) (n : Int) : Prop := (∀ c j : Int, ¬ (c = 118 ∧ bb ≤ j ∧ j < bb + 72) → ¬ (c = 100 ∧ j = 36) → τ c j = σ c j) ∧ τ 100 36 = bb + n ∧ τ 100 37 = 1 ∧ ∀ i : Int, 0 ≤ i → i < n → τ 118 (bb + i) = jKv σ i
def jRd (bb : Int) (σ τ : zS) (n m : Int) : Prop := (∀ c j : Int, (c < 100 ∨ 109 < c ∨ (c = 100 ∧ 16 < j ∧ j ≠ 36)) ∨ (c = 100 ∧ (j = 18 ∨ j = 1 ∨ j = 10)) → τ c j = σ c j) ∧ τ 100 36 = bb + n ∧ τ 100 37 = 0 ∧ ∀ i : Int, 0 ≤ i → i < m → jKv τ i = σ 118 (bb + i)
theorem jWr_p {bb n v : Int} {σ τ υ : zS} (h : jWr bb σ τ n) (hn : 0 ≤ n ∧ n < 72) (hv : v = jKv σ n) (hu : υ = zU (zU τ 118 (bb + n) v) 100 36 (bb + n + 1)) : jWr bb σ υ (n + 1) := by
  obtain ⟨h1, h2, h3, h4⟩ := h
  subst hu
  refine ⟨fun c j a b => ?_, by rw [zU_same]; omega, by rw [zU_place (by decide), zU_cell (by decide)]; exact h3, fun i a b => ?_⟩
  · rw [zU_ne (by omega), zU_ne (by omega)]
    exact h1 c j a b
  · rw [zU_cell (by decide)]
    by_cases hi : i = n
    · rw [hi, zU_same]; exact hv
    · rw [zU_place (by omega)]; exact h4 i a (by omega)
theorem jWr_s {bb n c j v : Int} {σ τ υ : zS} (h : jWr bb σ τ n) (hc : c ≠ 118 ∧ ¬ (c = 100 ∧ (j = 36 ∨ j = 37))) (hv : v = σ c j) (hu : υ = zU τ c j v) : jWr bb σ υ n := by
  obtain ⟨h1, h2, h3, h4⟩ := h
  subst hu
  refine ⟨fun c' j' a b => ?_, by rw [zU_ne (by omega)]; exact h2, by rw [zU_ne (by omega)]; exact h3, fun i a b => by rw [zU_ne (by omega)]; exact h4 i a b⟩
  by_cases hq : c' = c ∧ j' = j
  · rw [hq.1, hq.2, zU_same]; exact hv
  · rw [zU_ne hq]; exact h1 c' j' a b
theorem jRd_p {bb n m v : Int} {σ τ υ : zS} (h : jRd bb σ τ n m) (hb : 0 ≤ bb) (hn : 0 ≤ n ∧ n < 72 ∧ m ≤ 72) (hu : υ = zU (zU τ 118 (bb + n) (τ 118 (bb + n))) 100 36 (bb + n + 1)) : jRd bb σ υ (n + 1) m := by
  obtain ⟨h1, h2, h3, h4⟩ := h
  subst hu
  refine ⟨fun c j a => ?_, by rw [zU_same]; omega, by rw [zU_place (by decide), zU_cell (by decide)]; exact h3, fun i a b => ?_⟩
  · rw [zU_ne (by omega)]
    by_cases hq : c = 118 ∧ j = bb + n
    · rw [hq.1, hq.2, zU_same]; exact h1 118 (bb + n) (by omega)
    · rw [zU_ne hq]; exact h1 c j a
  · have hp := jP_b (i := i) ⟨a, by omega⟩
    unfold jKv
    rw [zU_ne (by omega), zU_ne (by omega)]
    exact h4 i a b
theorem jRd_s {bb n m c j v : Int} {σ τ υ : zS} (h : jRd bb σ τ n m) (hm : 0 ≤ m ∧ m < 72) (hc : c = jPc m ∧ j = jPj m) (hv : v = σ 118 (bb + m)) (hu : υ = zU τ c j v) : jRd bb σ υ n (m + 1) := by
  obtain ⟨h1, h2, h3, h4⟩ := h
  have hp := jP_b hm
  subst hu
  obtain ⟨rfl, rfl⟩ := hc
  refine ⟨fun c' j' a => ?_, by rw [zU_ne (by omega)]; exact h2, by rw [zU_ne (by omega)]; exact h3, fun i a b => ?_⟩
  · have hx : ∀ i : Nat, i < 72 → ¬ (jPc i = 100 ∧ (jPj i = 18 ∨ jPj i = 1 ∨ jPj i = 10)) := by decide +kernel
    have hy := hx m.toNat (by omega)
    rw [Int.toNat_of_nonneg hm.1] at hy
    rw [zU_ne (by omega)]
    exact h1 c' j' a
  · unfold jKv
    by_cases hi : i = m
    · rw [hi, zU_same]; exact hv
    · rw [zU_ne (fun q => hi (jP_i ⟨a, by omega⟩ hm q))]
      exact h4 i a (by omega)
set_option maxRecDepth 20000 in
set_option maxHeartbeats 4000000 in
theorem c_X8_passAll_w {l : Launch} {D : va_G} {Y : Nat → ClassId} {a : Int → Nat} (hI : zI a) (σ : zS) (bb : Int) (hbb : 0 ≤ bb ∧ bb ≤ 80) (h36 : σ 100 36 = bb) (h37 : σ 100 37 = 1) : zMet l yX8_passAll cX8_passAll 2 none 1 (zPc D Y a σ [.ref (a 100)]) (zQv D Y a (fun τ => jWr bb σ τ 72)) (inA a) := by
  refine z_start rfl (Nat.le_of_ble_eq_true rfl) hI ?_
  intro p e s m below meth c ls C hr hlocks hl hP
  have hS : va_S (inA a) s.heap s.heap [] := va_S.rf
  have hl : lv_has ls 2 [(0, .ref (a 100))] := hl
  have fσ : jWr bb σ σ 0 := ⟨fun c j _ _ => rfl, by omega, h37, fun i h1 h2 => by omega⟩
  skip
  refine z_aload_n C hl 0 rfl dX8_passAll_0 ?_
  refine z_aload_n C hl 0 rfl dX8_passAll_1 ?_
  refine z_aload_n C hl 0 rfl dX8_passAll_2 ?_
  refine zg_X8_94 C hP dX8_passAll_3 ?_
  refine z_vQi hS C hP (As := [.int (iI (σ 100 0))]) lk_X8_322 (c_X8_pass_w hI σ (σ 100 0) (bb + (0)) fσ.2.1 ⟨by omega, by omega⟩ fσ.2.2.1) ob_100 rfl rfl rfl hl.1 rfl (Nat.le_of_ble_eq_true rfl) ⟨Nat.le_of_ble_eq_true rfl, Nat.le_of_ble_eq_true rfl⟩ ⟨Nat.zero_le _, Nat.zero_le _⟩ dX8_passAll_6 (fun r1 t2 H locs hp6 hP hS => ?_)
  have ft2 : jWr bb σ t2 (0 + 1) := jWr_p fσ ⟨by omega, by omega⟩ (by show _ = σ (jPc (0)) (jPj (0)); rw [show jPc (0) = 100 from (by unfold jPc; omega), show jPj (0) = 0 from (by unfold jPj; omega)]) hp6.2
  refine zp_X8_94 C hP hS dX8_passAll_9 (fun H locs hP hS => ?_)
  obtain ⟨t3, et3⟩ : ∃ z : zS, z = zU t2 100 0 r1 := ⟨_, rfl⟩
  rw [← et3] at hP
  have ft3 : jWr bb σ t3 (0 + 1) := jWr_s ft2 (by omega) hp6.1 et3
  refine z_aload_n C hl 0 rfl dX8_passAll_12 ?_
  refine z_aload_n C hl 0 rfl dX8_passAll_13 ?_
  refine z_aload_n C hl 0 rfl dX8_passAll_14 ?_
  refine zg_X8_113 C hP dX8_passAll_15 ?_
  rw [show t3 100 5 = σ 100 5 from by rw [ft3.1 100 5 (by omega) (by omega)]]
  refine z_vQi hS C hP (As := [.int (iI (σ 100 5))]) lk_X8_322 (c_X8_pass_w hI t3 (σ 100 5) (bb + (1)) ft3.2.1 ⟨by omega, by omega⟩ ft3.2.2.1) ob_100 rfl rfl rfl hl.1 rfl (Nat.le_of_ble_eq_true rfl) ⟨Nat.le_of_ble_eq_true rfl, Nat.le_of_ble_eq_true rfl⟩ ⟨Nat.zero_le _, Nat.zero_le _⟩ dX8_passAll_18 (fun r4 t5 H locs hp18 hP hS => ?_)
  have ft5 : jWr bb σ t5 (1 + 1) := jWr_p ft3 ⟨by omega, by omega⟩ (by show _ = σ (jPc (1)) (jPj (1)); rw [show jPc (1) = 100 from (by unfold jPc; omega), show jPj (1) = 5 from (by unfold jPj; omega)]) hp18.2
  refine zp_X8_113 C hP hS dX8_passAll_21 (fun H locs hP hS => ?_)
  obtain ⟨t6, et6⟩ : ∃ z : zS, z = zU t5 100 5 r4 := ⟨_, rfl⟩
  rw [← et6] at hP
  have ft6 : jWr bb σ t6 (1 + 1) := jWr_s ft5 (by omega) hp18.1 et6
  refine z_aload_n C hl 0 rfl dX8_passAll_24 ?_
  refine z_aload_n C hl 0 rfl dX8_passAll_25 ?_
  refine z_aload_n C hl 0 rfl dX8_passAll_26 ?_
  refine zg_X8_68 C hP dX8_passAll_27 ?_
  rw [show t6 100 6 = σ 100 6 from by rw [ft6.1 100 6 (by omega) (by omega)]]
  refine z_vQi hS C hP (As := [.int (iI (σ 100 6))]) lk_X8_322 (c_X8_pass_w hI t6 (σ 100 6) (bb + (2)) ft6.2.1 ⟨by omega, by omega⟩ ft6.2.2.1) ob_100 rfl rfl rfl hl.1 rfl (Nat.le_of_ble_eq_true rfl) ⟨Nat.le_of_ble_eq_true rfl, Nat.le_of_ble_eq_true rfl⟩ ⟨Nat.zero_le _, Nat.zero_le _⟩ dX8_passAll_30 (fun r7 t8 H locs hp30 hP hS => ?_)
  have ft8 : jWr bb σ t8 (2 + 1) := jWr_p ft6 ⟨by omega, by omega⟩ (by show _ = σ (jPc (2)) (jPj (2)); rw [show jPc (2) = 100 from (by unfold jPc; omega), show jPj (2) = 6 from (by unfold jPj; omega)]) hp30.2
  refine zp_X8_68 C hP hS dX8_passAll_33 (fun H locs hP hS => ?_)
  obtain ⟨t9, et9⟩ : ∃ z : zS, z = zU t8 100 6 r7 := ⟨_, rfl⟩
  rw [← et9] at hP
  have ft9 : jWr bb σ t9 (2 + 1) := jWr_s ft8 (by omega) hp30.1 et9
  refine z_aload_n C hl 0 rfl dX8_passAll_36 ?_
  refine z_aload_n C hl 0 rfl dX8_passAll_37 ?_
  refine z_aload_n C hl 0 rfl dX8_passAll_38 ?_
  refine zg_X8_72 C hP dX8_passAll_39 ?_
  rw [show t9 100 7 = σ 100 7 from by rw [ft9.1 100 7 (by omega) (by omega)]]
  refine z_vQi hS C hP (As := [.int (iI (σ 100 7))]) lk_X8_322 (c_X8_pass_w hI t9 (σ 100 7) (bb + (3)) ft9.2.1 ⟨by omega, by omega⟩ ft9.2.2.1) ob_100 rfl rfl rfl hl.1 rfl (Nat.le_of_ble_eq_true rfl) ⟨Nat.le_of_ble_eq_true rfl, Nat.le_of_ble_eq_true rfl⟩ ⟨Nat.zero_le _, Nat.zero_le _⟩ dX8_passAll_42 (fun r10 t11 H locs hp42 hP hS => ?_)
  have ft11 : jWr bb σ t11 (3 + 1) := jWr_p ft9 ⟨by omega, by omega⟩ (by show _ = σ (jPc (3)) (jPj (3)); rw [show jPc (3) = 100 from (by unfold jPc; omega), show jPj (3) = 7 from (by unfold jPj; omega)]) hp42.2
  refine zp_X8_72 C hP hS dX8_passAll_45 (fun H locs hP hS => ?_)
  obtain ⟨t12, et12⟩ : ∃ z : zS, z = zU t11 100 7 r10 := ⟨_, rfl⟩
  rw [← et12] at hP
  have ft12 : jWr bb σ t12 (3 + 1) := jWr_s ft11 (by omega) hp42.1 et12
  refine z_aload_n C hl 0 rfl dX8_passAll_48 ?_
  refine z_aload_n C hl 0 rfl dX8_passAll_49 ?_
  refine z_aload_n C hl 0 rfl dX8_passAll_50 ?_
  refine zg_X8_75 C hP dX8_passAll_51 ?_
  rw [show t12 100 8 = σ 100 8 from by rw [ft12.1 100 8 (by omega) (by omega)]]
  refine z_vQi hS C hP (As := [.int (iI (σ 100 8))]) lk_X8_322 (c_X8_pass_w hI t12 (σ 100 8) (bb + (4)) ft12.2.1 ⟨by omega, by omega⟩ ft12.2.2.1) ob_100 rfl rfl rfl hl.1 rfl (Nat.le_of_ble_eq_true rfl) ⟨Nat.le_of_ble_eq_true rfl, Nat.le_of_ble_eq_true rfl⟩ ⟨Nat.zero_le _, Nat.zero_le _⟩ dX8_passAll_54 (fun r13 t14 H locs hp54 hP hS => ?_)
  have ft14 : jWr bb σ t14 (4 + 1) := jWr_p ft12 ⟨by omega, by omega⟩ (by show _ = σ (jPc (4)) (jPj (4)); rw [show jPc (4) = 100 from (by unfold jPc; omega), show jPj (4) = 8 from (by unfold jPj; omega)]) hp54.2
  refine zp_X8_75 C hP hS dX8_passAll_57 (fun H locs hP hS => ?_)
  obtain ⟨t15, et15⟩ : ∃ z : zS, z = zU t14 100 8 r13 := ⟨_, rfl⟩
  rw [← et15] at hP
  have ft15 : jWr bb σ t15 (4 + 1) := jWr_s ft14 (by omega) hp54.1 et15
  refine z_aload_n C hl 0 rfl dX8_passAll_60 ?_
  refine z_aload_n C hl 0 rfl dX8_passAll_61 ?_
  refine z_aload_n C hl 0 rfl dX8_passAll_62 ?_
  refine zg_X8_78 C hP dX8_passAll_63 ?_
  rw [show t15 100 9 = σ 100 9 from by rw [ft15.1 100 9 (by omega) (by omega)]]
  refine z_vQi hS C hP (As := [.int (iI (σ 100 9))]) lk_X8_322 (c_X8_pass_w hI t15 (σ 100 9) (bb + (5)) ft15.2.1 ⟨by omega, by omega⟩ ft15.2.2.1) ob_100 rfl rfl rfl hl.1 rfl (Nat.le_of_ble_eq_true rfl) ⟨Nat.le_of_ble_eq_true rfl, Nat.le_of_ble_eq_true rfl⟩ ⟨Nat.zero_le _, Nat.zero_le _⟩ dX8_passAll_66 (fun r16 t17 H locs hp66 hP hS => ?_)
  have ft17 : jWr bb σ t17 (5 + 1) := jWr_p ft15 ⟨by omega, by omega⟩ (by show _ = σ (jPc (5)) (jPj (5)); rw [show jPc (5) = 100 from (by unfold jPc; omega), show jPj (5) = 9 from (by unfold jPj; omega)]) hp66.2
  refine zp_X8_78 C hP hS dX8_passAll_69 (fun H locs hP hS => ?_)
  obtain ⟨t18, et18⟩ : ∃ z : zS, z = zU t17 100 9 r16 := ⟨_, rfl⟩
  rw [← et18] at hP
  have ft18 : jWr bb σ t18 (5 + 1) := jWr_s ft17 (by omega) hp66.1 et18
  refine z_aload_n C hl 0 rfl dX8_passAll_72 ?_
  refine z_aload_n C hl 0 rfl dX8_passAll_73 ?_
  refine z_aload_n C hl 0 rfl dX8_passAll_74 ?_
  refine zg_X8_81 C hP dX8_passAll_75 ?_
  rw [show t18 100 11 = σ 100 11 from by rw [ft18.1 100 11 (by omega) (by omega)]]
  refine z_vQi hS C hP (As := [.int (iI (σ 100 11))]) lk_X8_322 (c_X8_pass_w hI t18 (σ 100 11) (bb + (6)) ft18.2.1 ⟨by omega, by omega⟩ ft18.2.2.1) ob_100 rfl rfl rfl hl.1 rfl (Nat.le_of_ble_eq_true rfl) ⟨Nat.le_of_ble_eq_true rfl, Nat.le_of_ble_eq_true rfl⟩ ⟨Nat.zero_le _, Nat.zero_le _⟩ dX8_passAll_78 (fun r19 t20 H locs hp78 hP hS => ?_)
  have ft20 : jWr bb σ t20 (6 + 1) := jWr_p ft18 ⟨by omega, by omega⟩ (by show _ = σ (jPc (6)) (jPj (6)); rw [show jPc (6) = 100 from (by unfold jPc; omega), show jPj (6) = 11 from (by unfold jPj; omega)]) hp78.2
  refine zp_X8_81 C hP hS dX8_passAll_81 (fun H locs hP hS => ?_)
  obtain ⟨t21, et21⟩ : ∃ z : zS, z = zU t20 100 11 r19 := ⟨_, rfl⟩
  rw [← et21] at hP
  have ft21 : jWr bb σ t21 (6 + 1) := jWr_s ft20 (by omega) hp78.1 et21
  refine z_aload_n C hl 0 rfl dX8_passAll_84 ?_
  refine z_aload_n C hl 0 rfl dX8_passAll_85 ?_
  refine z_aload_n C hl 0 rfl dX8_passAll_86 ?_
  refine zg_X8_301 C hP dX8_passAll_87 ?_
  rw [show t21 100 16 = σ 100 16 from by rw [ft21.1 100 16 (by omega) (by omega)]]
  refine z_vQi hS C hP (As := [.int (iI (σ 100 16))]) lk_X8_322 (c_X8_pass_w hI t21 (σ 100 16) (bb + (7)) ft21.2.1 ⟨by omega, by omega⟩ ft21.2.2.1) ob_100 rfl rfl rfl hl.1 rfl (Nat.le_of_ble_eq_true rfl) ⟨Nat.le_of_ble_eq_true rfl, Nat.le_of_ble_eq_true rfl⟩ ⟨Nat.zero_le _, Nat.zero_le _⟩ dX8_passAll_90 (fun r22 t23 H locs hp90 hP hS => ?_)
  have ft23 : jWr bb σ t23 (7 + 1) := jWr_p ft21 ⟨by omega, by omega⟩ (by show _ = σ (jPc (7)) (jPj (7)); rw [show jPc (7) = 100 from (by unfold jPc; omega), show jPj (7) = 16 from (by unfold jPj; omega)]) hp90.2
  refine zp_X8_301 C hP hS dX8_passAll_93 (fun H locs hP hS => ?_)
  obtain ⟨t24, et24⟩ : ∃ z : zS, z = zU t23 100 16 r22 := ⟨_, rfl⟩
  rw [← et24] at hP
  have ft24 : jWr bb σ t24 (7 + 1) := jWr_s ft23 (by omega) hp90.1 et24
  refine z_iconst C dX8_passAll_96 ?_
  refine z_istore_n C [1, 0] [(0, .ref (a 100)), (1, .int (iI 0))] hl (by decide) rfl dX8_passAll_97 (fun ls hl => ?_)
  have L_98 : ∀ (n : Nat) (i : Int) (τ : zS) (H : Heap) (locs : List Loc) (hP : GP D Y a τ H) (hS : va_S (inA a) s.heap H locs) (ls : Array Slot), (0 ≤ i ∧ i ≤ 4) → (jWr bb σ τ (8 + 4 * i)) → ((4 - i).toNat) < n → lv_has ls 2 [(0, .ref (a 100)), (1, .int (iI i))] → W p l e (zR 1) s m ([.ref (a 100)] : List Value).toArray below meth c H locs 0 0 (MQ below (zQv D Y a (fun τ => jWr bb σ τ 72)) ([.ref (a 100)] : List Value).toArray s 0 0 (inA a)) (F0 m 98 ls []) := by
    intro n
    induction n with
    | zero =>
      intros; omega
    | succ n ih_98 =>
      intro i τ H locs hP hS ls ii fτ hm hl
      refine z_iload_n C hl 1 rfl dX8_passAll_98 ?_
      refine z_iconst C dX8_passAll_99 ?_
      refine z_icmp_ge C 173 dX8_passAll_100 (by decide) ⟨by omega, by omega⟩ ⟨by omega, by omega⟩ (fun c_100 => ?_) (fun c_100 => ?_)
      · refine z_iconst C dX8_passAll_173 ?_
        refine z_istore_n C [1, 0] [(0, .ref (a 100)), (1, .int (iI 0))] hl (by decide) rfl dX8_passAll_174 (fun ls hl => ?_)
        have L_175 : ∀ (n : Nat) (i : Int) (τ : zS) (H : Heap) (locs : List Loc) (hP : GP D Y a τ H) (hS : va_S (inA a) s.heap H locs) (ls : Array Slot), (0 ≤ i ∧ i ≤ 24) → (jWr bb σ τ (24 + i)) → ((24 - i).toNat) < n → lv_has ls 2 [(0, .ref (a 100)), (1, .int (iI i))] → W p l e (zR 1) s m ([.ref (a 100)] : List Value).toArray below meth c H locs 0 0 (MQ below (zQv D Y a (fun τ => jWr bb σ τ 72)) ([.ref (a 100)] : List Value).toArray s 0 0 (inA a)) (F0 m 175 ls []) := by
          intro n
          induction n with
          | zero =>
            intros; omega
          | succ n ih_175 =>
            intro i τ H locs hP hS ls ii fτ hm hl
            refine z_iload_n C hl 1 rfl dX8_passAll_175 ?_
            refine z_bipush C (by decide +kernel) dX8_passAll_176 ?_
            refine z_icmp_ge C 203 dX8_passAll_178 (by decide) ⟨by omega, by omega⟩ ⟨by omega, by omega⟩ (fun c_178 => ?_) (fun c_178 => ?_)
            · refine z_iconst C dX8_passAll_203 ?_
              refine z_istore_n C [1, 0] [(0, .ref (a 100)), (1, .int (iI 0))] hl (by decide) rfl dX8_passAll_204 (fun ls hl => ?_)
              have L_205 : ∀ (n : Nat) (i : Int) (τ : zS) (H : Heap) (locs : List Loc) (hP : GP D Y a τ H) (hS : va_S (inA a) s.heap H locs) (ls : Array Slot), (0 ≤ i ∧ i ≤ 6) → (jWr bb σ τ (48 + 4 * i)) → ((6 - i).toNat) < n → lv_has ls 2 [(0, .ref (a 100)), (1, .int (iI i))] → W p l e (zR 1) s m ([.ref (a 100)] : List Value).toArray below meth c H locs 0 0 (MQ below (zQv D Y a (fun τ => jWr bb σ τ 72)) ([.ref (a 100)] : List Value).toArray s 0 0 (inA a)) (F0 m 205 ls []) := by
                intro n
                induction n with
                | zero =>
                  intros; omega
                | succ n ih_205 =>
                  intro i τ H locs hP hS ls ii fτ hm hl
                  refine z_iload_n C hl 1 rfl dX8_passAll_205 ?_
                  refine z_bipush C (by decide +kernel) dX8_passAll_206 ?_
                  refine z_icmp_ge C 281 dX8_passAll_208 (by decide) ⟨by omega, by omega⟩ ⟨by omega, by omega⟩ (fun c_208 => ?_) (fun c_208 => ?_)
                  · exact z_retQv C hP hS hr hlocks (by have hi6 : i = 6 := (by omega); subst hi6; exact fτ) dX8_passAll_281
                  · refine z_aload_n C hl 0 rfl dX8_passAll_211 ?_
                    refine zg_X8_25 C hP dX8_passAll_212 ?_
                    refine z_iload_n C hl 1 rfl dX8_passAll_215 ?_
                    refine z_aload_n C hl 0 rfl dX8_passAll_216 ?_
                    refine z_aload_n C hl 0 rfl dX8_passAll_217 ?_
                    refine zg_X8_25 C hP dX8_passAll_218 ?_
                    refine z_iload_n C hl 1 rfl dX8_passAll_221 ?_
                    refine z_iald C hP ia_106 ⟨by omega, by omega⟩ dX8_passAll_222 ?_
                    rw [show τ 106 i = σ 106 i from by rw [fτ.1 106 i (by omega) (by omega)]]
                    refine z_vQi hS C hP (As := [.int (iI (σ 106 i))]) lk_X8_322 (c_X8_pass_w hI τ (σ 106 i) (bb + (48 + 4 * i)) fτ.2.1 ⟨by omega, by omega⟩ fτ.2.2.1) ob_100 rfl rfl rfl hl.1 rfl (Nat.le_of_ble_eq_true rfl) ⟨Nat.le_of_ble_eq_true rfl, Nat.le_of_ble_eq_true rfl⟩ ⟨Nat.zero_le _, Nat.zero_le _⟩ dX8_passAll_223 (fun r25 t26 H locs hp223 hP hS => ?_)
                    have ft26 : jWr bb σ t26 (48 + 4 * i + 1) := jWr_p fτ ⟨by omega, by omega⟩ (by show _ = σ (jPc (48 + 4 * i)) (jPj (48 + 4 * i)); rw [show jPc (48 + 4 * i) = 106 from (by unfold jPc; omega), show jPj (48 + 4 * i) = i from (by unfold jPj; omega)]) hp223.2
                    refine z_iast C hP hS ia_106 ⟨by omega, by omega⟩ dX8_passAll_226 (fun H locs hP hS => ?_)
                    obtain ⟨t27, et27⟩ : ∃ z : zS, z = zU t26 106 i r25 := ⟨_, rfl⟩
                    rw [← et27] at hP
                    have ft27 : jWr bb σ t27 (48 + 4 * i + 1) := jWr_s ft26 (by omega) hp223.1 et27
                    refine z_aload_n C hl 0 rfl dX8_passAll_227 ?_
                    refine zg_X8_28 C hP dX8_passAll_228 ?_
                    refine z_iload_n C hl 1 rfl dX8_passAll_231 ?_
                    refine z_aload_n C hl 0 rfl dX8_passAll_232 ?_
                    refine z_aload_n C hl 0 rfl dX8_passAll_233 ?_
                    refine zg_X8_28 C hP dX8_passAll_234 ?_
                    refine z_iload_n C hl 1 rfl dX8_passAll_237 ?_
                    refine z_iald C hP ia_107 ⟨by omega, by omega⟩ dX8_passAll_238 ?_
                    rw [show t27 107 i = σ 107 i from by rw [ft27.1 107 i (by omega) (by omega)]]
                    refine z_vQi hS C hP (As := [.int (iI (σ 107 i))]) lk_X8_322 (c_X8_pass_w hI t27 (σ 107 i) (bb + (48 + 4 * i + 1)) ft27.2.1 ⟨by omega, by omega⟩ ft27.2.2.1) ob_100 rfl rfl rfl hl.1 rfl (Nat.le_of_ble_eq_true rfl) ⟨Nat.le_of_ble_eq_true rfl, Nat.le_of_ble_eq_true rfl⟩ ⟨Nat.zero_le _, Nat.zero_le _⟩ dX8_passAll_239 (fun r28 t29 H locs hp239 hP hS => ?_)
                    have ft29 : jWr bb σ t29 (48 + 4 * i + 1 + 1) := jWr_p ft27 ⟨by omega, by omega⟩ (by show _ = σ (jPc (48 + 4 * i + 1)) (jPj (48 + 4 * i + 1)); rw [show jPc (48 + 4 * i + 1) = 107 from (by unfold jPc; omega), show jPj (48 + 4 * i + 1) = i from (by unfold jPj; omega)]) hp239.2
                    refine z_iast C hP hS ia_107 ⟨by omega, by omega⟩ dX8_passAll_242 (fun H locs hP hS => ?_)
                    obtain ⟨t30, et30⟩ : ∃ z : zS, z = zU t29 107 i r28 := ⟨_, rfl⟩
                    rw [← et30] at hP
                    have ft30 : jWr bb σ t30 (48 + 4 * i + 1 + 1) := jWr_s ft29 (by omega) hp239.1 et30
                    refine z_aload_n C hl 0 rfl dX8_passAll_243 ?_
                    refine zg_X8_31 C hP dX8_passAll_244 ?_
                    refine z_iload_n C hl 1 rfl dX8_passAll_247 ?_
                    refine z_aload_n C hl 0 rfl dX8_passAll_248 ?_
                    refine z_aload_n C hl 0 rfl dX8_passAll_249 ?_
                    refine zg_X8_31 C hP dX8_passAll_250 ?_
                    refine z_iload_n C hl 1 rfl dX8_passAll_253 ?_
                    refine z_iald C hP ia_108 ⟨by omega, by omega⟩ dX8_passAll_254 ?_
                    rw [show t30 108 i = σ 108 i from by rw [ft30.1 108 i (by omega) (by omega)]]
                    refine z_vQi hS C hP (As := [.int (iI (σ 108 i))]) lk_X8_322 (c_X8_pass_w hI t30 (σ 108 i) (bb + (48 + 4 * i + 1 + 1)) ft30.2.1 ⟨by omega, by omega⟩ ft30.2.2.1) ob_100 rfl rfl rfl hl.1 rfl (Nat.le_of_ble_eq_true rfl) ⟨Nat.le_of_ble_eq_true rfl, Nat.le_of_ble_eq_true rfl⟩ ⟨Nat.zero_le _, Nat.zero_le _⟩ dX8_passAll_255 (fun r31 t32 H locs hp255 hP hS => ?_)
                    have ft32 : jWr bb σ t32 (48 + 4 * i + 1 + 1 + 1) := jWr_p ft30 ⟨by omega, by omega⟩ (by show _ = σ (jPc (48 + 4 * i + 1 + 1)) (jPj (48 + 4 * i + 1 + 1)); rw [show jPc (48 + 4 * i + 1 + 1) = 108 from (by unfold jPc; omega), show jPj (48 + 4 * i + 1 + 1) = i from (by unfold jPj; omega)]) hp255.2
                    refine z_iast C hP hS ia_108 ⟨by omega, by omega⟩ dX8_passAll_258 (fun H locs hP hS => ?_)
                    obtain ⟨t33, et33⟩ : ∃ z : zS, z = zU t32 108 i r31 := ⟨_, rfl⟩
                    rw [← et33] at hP
                    have ft33 : jWr bb σ t33 (48 + 4 * i + 1 + 1 + 1) := jWr_s ft32 (by omega) hp255.1 et33
                    refine z_aload_n C hl 0 rfl dX8_passAll_259 ?_
                    refine zg_X8_34 C hP dX8_passAll_260 ?_
                    refine z_iload_n C hl 1 rfl dX8_passAll_263 ?_
                    refine z_aload_n C hl 0 rfl dX8_passAll_264 ?_
                    refine z_aload_n C hl 0 rfl dX8_passAll_265 ?_
                    refine zg_X8_34 C hP dX8_passAll_266 ?_
                    refine z_iload_n C hl 1 rfl dX8_passAll_269 ?_
                    refine z_iald C hP ia_109 ⟨by omega, by omega⟩ dX8_passAll_270 ?_
                    rw [show t33 109 i = σ 109 i from by rw [ft33.1 109 i (by omega) (by omega)]]
                    refine z_vQi hS C hP (As := [.int (iI (σ 109 i))]) lk_X8_322 (c_X8_pass_w hI t33 (σ 109 i) (bb + (48 + 4 * i + 1 + 1 + 1)) ft33.2.1 ⟨by omega, by omega⟩ ft33.2.2.1) ob_100 rfl rfl rfl hl.1 rfl (Nat.le_of_ble_eq_true rfl) ⟨Nat.le_of_ble_eq_true rfl, Nat.le_of_ble_eq_true rfl⟩ ⟨Nat.zero_le _, Nat.zero_le _⟩ dX8_passAll_271 (fun r34 t35 H locs hp271 hP hS => ?_)
                    have ft35 : jWr bb σ t35 (48 + 4 * i + 1 + 1 + 1 + 1) := jWr_p ft33 ⟨by omega, by omega⟩ (by show _ = σ (jPc (48 + 4 * i + 1 + 1 + 1)) (jPj (48 + 4 * i + 1 + 1 + 1)); rw [show jPc (48 + 4 * i + 1 + 1 + 1) = 109 from (by unfold jPc; omega), show jPj (48 + 4 * i + 1 + 1 + 1) = i from (by unfold jPj; omega)]) hp271.2
                    refine z_iast C hP hS ia_109 ⟨by omega, by omega⟩ dX8_passAll_274 (fun H locs hP hS => ?_)
                    obtain ⟨t36, et36⟩ : ∃ z : zS, z = zU t35 109 i r34 := ⟨_, rfl⟩
                    rw [← et36] at hP
                    have ft36 : jWr bb σ t36 (48 + 4 * i + 1 + 1 + 1 + 1) := jWr_s ft35 (by omega) hp271.1 et36
                    refine z_iinc C 1 [1, 0] [(0, .ref (a 100)), (1, .int (iI (i + 1)))] hl rfl (by decide) rfl dX8_passAll_275 (fun ls hl => ?_)
                    refine z_goto C 205 dX8_passAll_278 (by decide) ?_
                    exact ih_205 (i + 1) t36 H locs hP hS ls (by omega) (by rw [show (48 + 4 * (i + 1) : Int) = 48 + 4 * i + 1 + 1 + 1 + 1 from (by omega)]; exact ft36) (by omega) (lv_sub hl [0, 1] rfl)
              exact L_205 _ 0 τ _ _ hP hS ls (by omega) (by have hi4 : i = 24 := (by omega); subst hi4; exact fτ) (Nat.lt_succ_self _) (lv_sub hl [0, 1] rfl)
            · refine z_aload_n C hl 0 rfl dX8_passAll_181 ?_
              refine zg_X8_22 C hP dX8_passAll_182 ?_
              refine z_iload_n C hl 1 rfl dX8_passAll_185 ?_
              refine z_aload_n C hl 0 rfl dX8_passAll_186 ?_
              refine z_aload_n C hl 0 rfl dX8_passAll_187 ?_
              refine zg_X8_22 C hP dX8_passAll_188 ?_
              refine z_iload_n C hl 1 rfl dX8_passAll_191 ?_
              refine z_iald C hP ia_105 ⟨by omega, by omega⟩ dX8_passAll_192 ?_
              rw [show τ 105 i = σ 105 i from by rw [fτ.1 105 i (by omega) (by omega)]]
              refine z_vQi hS C hP (As := [.int (iI (σ 105 i))]) lk_X8_322 (c_X8_pass_w hI τ (σ 105 i) (bb + (24 + i)) fτ.2.1 ⟨by omega, by omega⟩ fτ.2.2.1) ob_100 rfl rfl rfl hl.1 rfl (Nat.le_of_ble_eq_true rfl) ⟨Nat.le_of_ble_eq_true rfl, Nat.le_of_ble_eq_true rfl⟩ ⟨Nat.zero_le _, Nat.zero_le _⟩ dX8_passAll_193 (fun r37 t38 H locs hp193 hP hS => ?_)
              have ft38 : jWr bb σ t38 (24 + i + 1) := jWr_p fτ ⟨by omega, by omega⟩ (by show _ = σ (jPc (24 + i)) (jPj (24 + i)); rw [show jPc (24 + i) = 105 from (by unfold jPc; omega), show jPj (24 + i) = i from (by unfold jPj; omega)]) hp193.2
              refine z_iast C hP hS ia_105 ⟨by omega, by omega⟩ dX8_passAll_196 (fun H locs hP hS => ?_)
              obtain ⟨t39, et39⟩ : ∃ z : zS, z = zU t38 105 i r37 := ⟨_, rfl⟩
              rw [← et39] at hP
              have ft39 : jWr bb σ t39 (24 + i + 1) := jWr_s ft38 (by omega) hp193.1 et39
              refine z_iinc C 1 [1, 0] [(0, .ref (a 100)), (1, .int (iI (i + 1)))] hl rfl (by decide) rfl dX8_passAll_197 (fun ls hl => ?_)
              refine z_goto C 175 dX8_passAll_200 (by decide) ?_
              exact ih_175 (i + 1) t39 H locs hP hS ls (by omega) (by rw [show (24 + (i + 1) : Int) = 24 + i + 1 from (by omega)]; exact ft39) (by omega) (lv_sub hl [0, 1] rfl)
        exact L_175 _ 0 τ _ _ hP hS ls (by omega) (by have hi4 : i = 4 := (by omega); subst hi4; exact fτ) (Nat.lt_succ_self _) (lv_sub hl [0, 1] rfl)
      · refine z_aload_n C hl 0 rfl dX8_passAll_103 ?_
        refine zg_X8_7 C hP dX8_passAll_104 ?_
        refine z_iload_n C hl 1 rfl dX8_passAll_107 ?_
        refine z_aload_n C hl 0 rfl dX8_passAll_108 ?_
        refine z_aload_n C hl 0 rfl dX8_passAll_109 ?_
        refine zg_X8_7 C hP dX8_passAll_110 ?_
        refine z_iload_n C hl 1 rfl dX8_passAll_113 ?_
        refine z_iald C hP ia_101 ⟨by omega, by omega⟩ dX8_passAll_114 ?_
        rw [show τ 101 i = σ 101 i from by rw [fτ.1 101 i (by omega) (by omega)]]
        refine z_vQi hS C hP (As := [.int (iI (σ 101 i))]) lk_X8_322 (c_X8_pass_w hI τ (σ 101 i) (bb + (8 + 4 * i)) fτ.2.1 ⟨by omega, by omega⟩ fτ.2.2.1) ob_100 rfl rfl rfl hl.1 rfl (Nat.le_of_ble_eq_true rfl) ⟨Nat.le_of_ble_eq_true rfl, Nat.le_of_ble_eq_true rfl⟩ ⟨Nat.zero_le _, Nat.zero_le _⟩ dX8_passAll_115 (fun r40 t41 H locs hp115 hP hS => ?_)
        have ft41 : jWr bb σ t41 (8 + 4 * i + 1) := jWr_p fτ ⟨by omega, by omega⟩ (by show _ = σ (jPc (8 + 4 * i)) (jPj (8 + 4 * i)); rw [show jPc (8 + 4 * i) = 101 from (by unfold jPc; omega), show jPj (8 + 4 * i) = i from (by unfold jPj; omega)]) hp115.2
        refine z_iast C hP hS ia_101 ⟨by omega, by omega⟩ dX8_passAll_118 (fun H locs hP hS => ?_)
        obtain ⟨t42, et42⟩ : ∃ z : zS, z = zU t41 101 i r40 := ⟨_, rfl⟩
        rw [← et42] at hP
        have ft42 : jWr bb σ t42 (8 + 4 * i + 1) := jWr_s ft41 (by omega) hp115.1 et42
        refine z_aload_n C hl 0 rfl dX8_passAll_119 ?_
        refine zg_X8_13 C hP dX8_passAll_120 ?_
        refine z_iload_n C hl 1 rfl dX8_passAll_123 ?_
        refine z_aload_n C hl 0 rfl dX8_passAll_124 ?_
        refine z_aload_n C hl 0 rfl dX8_passAll_125 ?_
        refine zg_X8_13 C hP dX8_passAll_126 ?_
        refine z_iload_n C hl 1 rfl dX8_passAll_129 ?_
        refine z_iald C hP ia_102 ⟨by omega, by omega⟩ dX8_passAll_130 ?_
        rw [show t42 102 i = σ 102 i from by rw [ft42.1 102 i (by omega) (by omega)]]
        refine z_vQi hS C hP (As := [.int (iI (σ 102 i))]) lk_X8_322 (c_X8_pass_w hI t42 (σ 102 i) (bb + (8 + 4 * i + 1)) ft42.2.1 ⟨by omega, by omega⟩ ft42.2.2.1) ob_100 rfl rfl rfl hl.1 rfl (Nat.le_of_ble_eq_true rfl) ⟨Nat.le_of_ble_eq_true rfl, Nat.le_of_ble_eq_true rfl⟩ ⟨Nat.zero_le _, Nat.zero_le _⟩ dX8_passAll_131 (fun r43 t44 H locs hp131 hP hS => ?_)
        have ft44 : jWr bb σ t44 (8 + 4 * i + 1 + 1) := jWr_p ft42 ⟨by omega, by omega⟩ (by show _ = σ (jPc (8 + 4 * i + 1)) (jPj (8 + 4 * i + 1)); rw [show jPc (8 + 4 * i + 1) = 102 from (by unfold jPc; omega), show jPj (8 + 4 * i + 1) = i from (by unfold jPj; omega)]) hp131.2
        refine z_iast C hP hS ia_102 ⟨by omega, by omega⟩ dX8_passAll_134 (fun H locs hP hS => ?_)
        obtain ⟨t45, et45⟩ : ∃ z : zS, z = zU t44 102 i r43 := ⟨_, rfl⟩
        rw [← et45] at hP
        have ft45 : jWr bb σ t45 (8 + 4 * i + 1 + 1) := jWr_s ft44 (by omega) hp131.1 et45
        refine z_aload_n C hl 0 rfl dX8_passAll_135 ?_
        refine zg_X8_16 C hP dX8_passAll_136 ?_
        refine z_iload_n C hl 1 rfl dX8_passAll_139 ?_
        refine z_aload_n C hl 0 rfl dX8_passAll_140 ?_
        refine z_aload_n C hl 0 rfl dX8_passAll_141 ?_
        refine zg_X8_16 C hP dX8_passAll_142 ?_
        refine z_iload_n C hl 1 rfl dX8_passAll_145 ?_
        refine z_iald C hP ia_103 ⟨by omega, by omega⟩ dX8_passAll_146 ?_
        rw [show t45 103 i = σ 103 i from by rw [ft45.1 103 i (by omega) (by omega)]]
        refine z_vQi hS C hP (As := [.int (iI (σ 103 i))]) lk_X8_322 (c_X8_pass_w hI t45 (σ 103 i) (bb + (8 + 4 * i + 1 + 1)) ft45.2.1 ⟨by omega, by omega⟩ ft45.2.2.1) ob_100 rfl rfl rfl hl.1 rfl (Nat.le_of_ble_eq_true rfl) ⟨Nat.le_of_ble_eq_true rfl, Nat.le_of_ble_eq_true rfl⟩ ⟨Nat.zero_le _, Nat.zero_le _⟩ dX8_passAll_147 (fun r46 t47 H locs hp147 hP hS => ?_)
        have ft47 : jWr bb σ t47 (8 + 4 * i + 1 + 1 + 1) := jWr_p ft45 ⟨by omega, by omega⟩ (by show _ = σ (jPc (8 + 4 * i + 1 + 1)) (jPj (8 + 4 * i + 1 + 1)); rw [show jPc (8 + 4 * i + 1 + 1) = 103 from (by unfold jPc; omega), show jPj (8 + 4 * i + 1 + 1) = i from (by unfold jPj; omega)]) hp147.2
        refine z_iast C hP hS ia_103 ⟨by omega, by omega⟩ dX8_passAll_150 (fun H locs hP hS => ?_)
        obtain ⟨t48, et48⟩ : ∃ z : zS, z = zU t47 103 i r46 := ⟨_, rfl⟩
        rw [← et48] at hP
        have ft48 : jWr bb σ t48 (8 + 4 * i + 1 + 1 + 1) := jWr_s ft47 (by omega) hp147.1 et48
        refine z_aload_n C hl 0 rfl dX8_passAll_151 ?_
        refine zg_X8_19 C hP dX8_passAll_152 ?_
        refine z_iload_n C hl 1 rfl dX8_passAll_155 ?_
        refine z_aload_n C hl 0 rfl dX8_passAll_156 ?_
        refine z_aload_n C hl 0 rfl dX8_passAll_157 ?_
        refine zg_X8_19 C hP dX8_passAll_158 ?_
        refine z_iload_n C hl 1 rfl dX8_passAll_161 ?_
        refine z_iald C hP ia_104 ⟨by omega, by omega⟩ dX8_passAll_162 ?_
        rw [show t48 104 i = σ 104 i from by rw [ft48.1 104 i (by omega) (by omega)]]
        refine z_vQi hS C hP (As := [.int (iI (σ 104 i))]) lk_X8_322 (c_X8_pass_w hI t48 (σ 104 i) (bb + (8 + 4 * i + 1 + 1 + 1)) ft48.2.1 ⟨by omega, by omega⟩ ft48.2.2.1) ob_100 rfl rfl rfl hl.1 rfl (Nat.le_of_ble_eq_true rfl) ⟨Nat.le_of_ble_eq_true rfl, Nat.le_of_ble_eq_true rfl⟩ ⟨Nat.zero_le _, Nat.zero_le _⟩ dX8_passAll_163 (fun r49 t50 H locs hp163 hP hS => ?_)
        have ft50 : jWr bb σ t50 (8 + 4 * i + 1 + 1 + 1 + 1) := jWr_p ft48 ⟨by omega, by omega⟩ (by show _ = σ (jPc (8 + 4 * i + 1 + 1 + 1)) (jPj (8 + 4 * i + 1 + 1 + 1)); rw [show jPc (8 + 4 * i + 1 + 1 + 1) = 104 from (by unfold jPc; omega), show jPj (8 + 4 * i + 1 + 1 + 1) = i from (by unfold jPj; omega)]) hp163.2
        refine z_iast C hP hS ia_104 ⟨by omega, by omega⟩ dX8_passAll_166 (fun H locs hP hS => ?_)
        obtain ⟨t51, et51⟩ : ∃ z : zS, z = zU t50 104 i r49 := ⟨_, rfl⟩
        rw [← et51] at hP
        have ft51 : jWr bb σ t51 (8 + 4 * i + 1 + 1 + 1 + 1) := jWr_s ft50 (by omega) hp163.1 et51
        refine z_iinc C 1 [1, 0] [(0, .ref (a 100)), (1, .int (iI (i + 1)))] hl rfl (by decide) rfl dX8_passAll_167 (fun ls hl => ?_)
        refine z_goto C 98 dX8_passAll_170 (by decide) ?_
        exact ih_98 (i + 1) t51 H locs hP hS ls (by omega) (by rw [show (8 + 4 * (i + 1) : Int) = 8 + 4 * i + 1 + 1 + 1 + 1 from (by omega)]; exact ft51) (by omega) (lv_sub hl [0, 1] rfl)
  exact L_98 _ 0 t24 _ _ hP hS ls (by omega) (by exact ft24) (Nat.lt_succ_self _) (lv_sub hl [0, 1] rfl)

set_option maxRecDepth 20000 in
set_option maxHeartbeats 4000000 in
theorem c_X8_passAll_r {l : Launch} {D : va_G} {Y : Nat → ClassId} {a : Int → Nat} (hI : zI a) (σ : zS) (bb : Int) (hbb : 0 ≤ bb ∧ bb ≤ 80) (h36 : σ 100 36 = bb) (h37 : σ 100 37 = 0) : zMet l yX8_passAll cX8_passAll 2 none 1 (zPc D Y a σ [.ref (a 100)]) (zQv D Y a (fun τ => jRd bb σ τ 72 72)) (inA a) := by
  refine z_start rfl (Nat.le_of_ble_eq_true rfl) hI ?_
  intro p e s m below meth c ls C hr hlocks hl hP
  have hS : va_S (inA a) s.heap s.heap [] := va_S.rf
  have hl : lv_has ls 2 [(0, .ref (a 100))] := hl
  have fσ : jRd bb σ σ 0 0 := ⟨fun c j _ => rfl, by omega, h37, fun i h1 h2 => by omega⟩
  skip
  refine z_aload_n C hl 0 rfl dX8_passAll_0 ?_
  refine z_aload_n C hl 0 rfl dX8_passAll_1 ?_
  refine z_aload_n C hl 0 rfl dX8_passAll_2 ?_
  refine zg_X8_94 C hP dX8_passAll_3 ?_
  refine z_vQi hS C hP (As := [.int (iI (σ 100 0))]) lk_X8_322 (c_X8_pass_r hI σ (σ 100 0) (bb + (0)) fσ.2.1 ⟨by omega, by omega⟩ fσ.2.2.1) ob_100 rfl rfl rfl hl.1 rfl (Nat.le_of_ble_eq_true rfl) ⟨Nat.le_of_ble_eq_true rfl, Nat.le_of_ble_eq_true rfl⟩ ⟨Nat.zero_le _, Nat.zero_le _⟩ dX8_passAll_6 (fun r1 t2 H locs hp6 hP hS => ?_)
  have ft2 : jRd bb σ t2 (0 + 1) (0) := jRd_p (v := 0) fσ hbb.1 ⟨by omega, by omega, by omega⟩ hp6.2
  have vt2 : r1 = σ 118 (bb + (0)) := hp6.1.trans (fσ.1 118 _ (by omega))
  refine zp_X8_94 C hP hS dX8_passAll_9 (fun H locs hP hS => ?_)
  obtain ⟨t3, et3⟩ : ∃ z : zS, z = zU t2 100 0 r1 := ⟨_, rfl⟩
  rw [← et3] at hP
  have ft3 : jRd bb σ t3 (0 + 1) (0 + 1) := jRd_s ft2 ⟨by omega, by omega⟩ ⟨by unfold jPc; omega, by unfold jPj; omega⟩ vt2 et3
  refine z_aload_n C hl 0 rfl dX8_passAll_12 ?_
  refine z_aload_n C hl 0 rfl dX8_passAll_13 ?_
  refine z_aload_n C hl 0 rfl dX8_passAll_14 ?_
  refine zg_X8_113 C hP dX8_passAll_15 ?_
  refine z_vQi hS C hP (As := [.int (iI (t3 100 5))]) lk_X8_322 (c_X8_pass_r hI t3 (t3 100 5) (bb + (1)) ft3.2.1 ⟨by omega, by omega⟩ ft3.2.2.1) ob_100 rfl rfl rfl hl.1 rfl (Nat.le_of_ble_eq_true rfl) ⟨Nat.le_of_ble_eq_true rfl, Nat.le_of_ble_eq_true rfl⟩ ⟨Nat.zero_le _, Nat.zero_le _⟩ dX8_passAll_18 (fun r4 t5 H locs hp18 hP hS => ?_)
  have ft5 : jRd bb σ t5 (1 + 1) (1) := jRd_p (v := 0) ft3 hbb.1 ⟨by omega, by omega, by omega⟩ hp18.2
  have vt5 : r4 = σ 118 (bb + (1)) := hp18.1.trans (ft3.1 118 _ (by omega))
  refine zp_X8_113 C hP hS dX8_passAll_21 (fun H locs hP hS => ?_)
  obtain ⟨t6, et6⟩ : ∃ z : zS, z = zU t5 100 5 r4 := ⟨_, rfl⟩
  rw [← et6] at hP
  have ft6 : jRd bb σ t6 (1 + 1) (1 + 1) := jRd_s ft5 ⟨by omega, by omega⟩ ⟨by unfold jPc; omega, by unfold jPj; omega⟩ vt5 et6
  refine z_aload_n C hl 0 rfl dX8_passAll_24 ?_
  refine z_aload_n C hl 0 rfl dX8_passAll_25 ?_
  refine z_aload_n C hl 0 rfl dX8_passAll_26 ?_
  refine zg_X8_68 C hP dX8_passAll_27 ?_
  refine z_vQi hS C hP (As := [.int (iI (t6 100 6))]) lk_X8_322 (c_X8_pass_r hI t6 (t6 100 6) (bb + (2)) ft6.2.1 ⟨by omega, by omega⟩ ft6.2.2.1) ob_100 rfl rfl rfl hl.1 rfl (Nat.le_of_ble_eq_true rfl) ⟨Nat.le_of_ble_eq_true rfl, Nat.le_of_ble_eq_true rfl⟩ ⟨Nat.zero_le _, Nat.zero_le _⟩ dX8_passAll_30 (fun r7 t8 H locs hp30 hP hS => ?_)
  have ft8 : jRd bb σ t8 (2 + 1) (2) := jRd_p (v := 0) ft6 hbb.1 ⟨by omega, by omega, by omega⟩ hp30.2
  have vt8 : r7 = σ 118 (bb + (2)) := hp30.1.trans (ft6.1 118 _ (by omega))
  refine zp_X8_68 C hP hS dX8_passAll_33 (fun H locs hP hS => ?_)
  obtain ⟨t9, et9⟩ : ∃ z : zS, z = zU t8 100 6 r7 := ⟨_, rfl⟩
  rw [← et9] at hP
  have ft9 : jRd bb σ t9 (2 + 1) (2 + 1) := jRd_s ft8 ⟨by omega, by omega⟩ ⟨by unfold jPc; omega, by unfold jPj; omega⟩ vt8 et9
  refine z_aload_n C hl 0 rfl dX8_passAll_36 ?_
  refine z_aload_n C hl 0 rfl dX8_passAll_37 ?_
  refine z_aload_n C hl 0 rfl dX8_passAll_38 ?_
  refine zg_X8_72 C hP dX8_passAll_39 ?_
  refine z_vQi hS C hP (As := [.int (iI (t9 100 7))]) lk_X8_322 (c_X8_pass_r hI t9 (t9 100 7) (bb + (3)) ft9.2.1 ⟨by omega, by omega⟩ ft9.2.2.1) ob_100 rfl rfl rfl hl.1 rfl (Nat.le_of_ble_eq_true rfl) ⟨Nat.le_of_ble_eq_true rfl, Nat.le_of_ble_eq_true rfl⟩ ⟨Nat.zero_le _, Nat.zero_le _⟩ dX8_passAll_42 (fun r10 t11 H locs hp42 hP hS => ?_)
  have ft11 : jRd bb σ t11 (3 + 1) (3) := jRd_p (v := 0) ft9 hbb.1 ⟨by omega, by omega, by omega⟩ hp42.2
  have vt11 : r10 = σ 118 (bb + (3)) := hp42.1.trans (ft9.1 118 _ (by omega))
  refine zp_X8_72 C hP hS dX8_passAll_45 (fun H locs hP hS => ?_)
  obtain ⟨t12, et12⟩ : ∃ z : zS, z = zU t11 100 7 r10 := ⟨_, rfl⟩
  rw [← et12] at hP
  have ft12 : jRd bb σ t12 (3 + 1) (3 + 1) := jRd_s ft11 ⟨by omega, by omega⟩ ⟨by unfold jPc; omega, by unfold jPj; omega⟩ vt11 et12
  refine z_aload_n C hl 0 rfl dX8_passAll_48 ?_
  refine z_aload_n C hl 0 rfl dX8_passAll_49 ?_
  refine z_aload_n C hl 0 rfl dX8_passAll_50 ?_
  refine zg_X8_75 C hP dX8_passAll_51 ?_
  refine z_vQi hS C hP (As := [.int (iI (t12 100 8))]) lk_X8_322 (c_X8_pass_r hI t12 (t12 100 8) (bb + (4)) ft12.2.1 ⟨by omega, by omega⟩ ft12.2.2.1) ob_100 rfl rfl rfl hl.1 rfl (Nat.le_of_ble_eq_true rfl) ⟨Nat.le_of_ble_eq_true rfl, Nat.le_of_ble_eq_true rfl⟩ ⟨Nat.zero_le _, Nat.zero_le _⟩ dX8_passAll_54 (fun r13 t14 H locs hp54 hP hS => ?_)
  have ft14 : jRd bb σ t14 (4 + 1) (4) := jRd_p (v := 0) ft12 hbb.1 ⟨by omega, by omega, by omega⟩ hp54.2
  have vt14 : r13 = σ 118 (bb + (4)) := hp54.1.trans (ft12.1 118 _ (by omega))
  refine zp_X8_75 C hP hS dX8_passAll_57 (fun H locs hP hS => ?_)
  obtain ⟨t15, et15⟩ : ∃ z : zS, z = zU t14 100 8 r13 := ⟨_, rfl⟩
  rw [← et15] at hP
  have ft15 : jRd bb σ t15 (4 + 1) (4 + 1) := jRd_s ft14 ⟨by omega, by omega⟩ ⟨by unfold jPc; omega, by unfold jPj; omega⟩ vt14 et15
  refine z_aload_n C hl 0 rfl dX8_passAll_60 ?_
  refine z_aload_n C hl 0 rfl dX8_passAll_61 ?_
  refine z_aload_n C hl 0 rfl dX8_passAll_62 ?_
  refine zg_X8_78 C hP dX8_passAll_63 ?_
  refine z_vQi hS C hP (As := [.int (iI (t15 100 9))]) lk_X8_322 (c_X8_pass_r hI t15 (t15 100 9) (bb + (5)) ft15.2.1 ⟨by omega, by omega⟩ ft15.2.2.1) ob_100 rfl rfl rfl hl.1 rfl (Nat.le_of_ble_eq_true rfl) ⟨Nat.le_of_ble_eq_true rfl, Nat.le_of_ble_eq_true rfl⟩ ⟨Nat.zero_le _, Nat.zero_le _⟩ dX8_passAll_66 (fun r16 t17 H locs hp66 hP hS => ?_)
  have ft17 : jRd bb σ t17 (5 + 1) (5) := jRd_p (v := 0) ft15 hbb.1 ⟨by omega, by omega, by omega⟩ hp66.2
  have vt17 : r16 = σ 118 (bb + (5)) := hp66.1.trans (ft15.1 118 _ (by omega))
  refine zp_X8_78 C hP hS dX8_passAll_69 (fun H locs hP hS => ?_)
  obtain ⟨t18, et18⟩ : ∃ z : zS, z = zU t17 100 9 r16 := ⟨_, rfl⟩
  rw [← et18] at hP
  have ft18 : jRd bb σ t18 (5 + 1) (5 + 1) := jRd_s ft17 ⟨by omega, by omega⟩ ⟨by unfold jPc; omega, by unfold jPj; omega⟩ vt17 et18
  refine z_aload_n C hl 0 rfl dX8_passAll_72 ?_
  refine z_aload_n C hl 0 rfl dX8_passAll_73 ?_
  refine z_aload_n C hl 0 rfl dX8_passAll_74 ?_
  refine zg_X8_81 C hP dX8_passAll_75 ?_
  refine z_vQi hS C hP (As := [.int (iI (t18 100 11))]) lk_X8_322 (c_X8_pass_r hI t18 (t18 100 11) (bb + (6)) ft18.2.1 ⟨by omega, by omega⟩ ft18.2.2.1) ob_100 rfl rfl rfl hl.1 rfl (Nat.le_of_ble_eq_true rfl) ⟨Nat.le_of_ble_eq_true rfl, Nat.le_of_ble_eq_true rfl⟩ ⟨Nat.zero_le _, Nat.zero_le _⟩ dX8_passAll_78 (fun r19 t20 H locs hp78 hP hS => ?_)
  have ft20 : jRd bb σ t20 (6 + 1) (6) := jRd_p (v := 0) ft18 hbb.1 ⟨by omega, by omega, by omega⟩ hp78.2
  have vt20 : r19 = σ 118 (bb + (6)) := hp78.1.trans (ft18.1 118 _ (by omega))
  refine zp_X8_81 C hP hS dX8_passAll_81 (fun H locs hP hS => ?_)
  obtain ⟨t21, et21⟩ : ∃ z : zS, z = zU t20 100 11 r19 := ⟨_, rfl⟩
  rw [← et21] at hP
  have ft21 : jRd bb σ t21 (6 + 1) (6 + 1) := jRd_s ft20 ⟨by omega, by omega⟩ ⟨by unfold jPc; omega, by unfold jPj; omega⟩ vt20 et21
  refine z_aload_n C hl 0 rfl dX8_passAll_84 ?_
  refine z_aload_n C hl 0 rfl dX8_passAll_85 ?_
  refine z_aload_n C hl 0 rfl dX8_passAll_86 ?_
  refine zg_X8_301 C hP dX8_passAll_87 ?_
  refine z_vQi hS C hP (As := [.int (iI (t21 100 16))]) lk_X8_322 (c_X8_pass_r hI t21 (t21 100 16) (bb + (7)) ft21.2.1 ⟨by omega, by omega⟩ ft21.2.2.1) ob_100 rfl rfl rfl hl.1 rfl (Nat.le_of_ble_eq_true rfl) ⟨Nat.le_of_ble_eq_true rfl, Nat.le_of_ble_eq_true rfl⟩ ⟨Nat.zero_le _, Nat.zero_le _⟩ dX8_passAll_90 (fun r22 t23 H locs hp90 hP hS => ?_)
  have ft23 : jRd bb σ t23 (7 + 1) (7) := jRd_p (v := 0) ft21 hbb.1 ⟨by omega, by omega, by omega⟩ hp90.2
  have vt23 : r22 = σ 118 (bb + (7)) := hp90.1.trans (ft21.1 118 _ (by omega))
  refine zp_X8_301 C hP hS dX8_passAll_93 (fun H locs hP hS => ?_)
  obtain ⟨t24, et24⟩ : ∃ z : zS, z = zU t23 100 16 r22 := ⟨_, rfl⟩
  rw [← et24] at hP
  have ft24 : jRd bb σ t24 (7 + 1) (7 + 1) := jRd_s ft23 ⟨by omega, by omega⟩ ⟨by unfold jPc; omega, by unfold jPj; omega⟩ vt23 et24
  refine z_iconst C dX8_passAll_96 ?_
  refine z_istore_n C [1, 0] [(0, .ref (a 100)), (1, .int (iI 0))] hl (by decide) rfl dX8_passAll_97 (fun ls hl => ?_)
  have L_98 : ∀ (n : Nat) (i : Int) (τ : zS) (H : Heap) (locs : List Loc) (hP : GP D Y a τ H) (hS : va_S (inA a) s.heap H locs) (ls : Array Slot), (0 ≤ i ∧ i ≤ 4) → (jRd bb σ τ (8 + 4 * i) (8 + 4 * i)) → ((4 - i).toNat) < n → lv_has ls 2 [(0, .ref (a 100)), (1, .int (iI i))] → W p l e (zR 1) s m ([.ref (a 100)] : List Value).toArray below meth c H locs 0 0 (MQ below (zQv D Y a (fun τ => jRd bb σ τ 72 72)) ([.ref (a 100)] : List Value).toArray s 0 0 (inA a)) (F0 m 98 ls []) := by
    intro n
    induction n with
    | zero =>
      intros; omega
    | succ n ih_98 =>
      intro i τ H locs hP hS ls ii fτ hm hl
      refine z_iload_n C hl 1 rfl dX8_passAll_98 ?_
      refine z_iconst C dX8_passAll_99 ?_
      refine z_icmp_ge C 173 dX8_passAll_100 (by decide) ⟨by omega, by omega⟩ ⟨by omega, by omega⟩ (fun c_100 => ?_) (fun c_100 => ?_)
      · refine z_iconst C dX8_passAll_173 ?_
        refine z_istore_n C [1, 0] [(0, .ref (a 100)), (1, .int (iI 0))] hl (by decide) rfl dX8_passAll_174 (fun ls hl => ?_)
        have L_175 : ∀ (n : Nat) (i : Int) (τ : zS) (H : Heap) (locs : List Loc) (hP : GP D Y a τ H) (hS : va_S (inA a) s.heap H locs) (ls : Array Slot), (0 ≤ i ∧ i ≤ 24) → (jRd bb σ τ (24 + i) (24 + i)) → ((24 - i).toNat) < n → lv_has ls 2 [(0, .ref (a 100)), (1, .int (iI i))] → W p l e (zR 1) s m ([.ref (a 100)] : List Value).toArray below meth c H locs 0 0 (MQ below (zQv D Y a (fun τ => jRd bb σ τ 72 72)) ([.ref (a 100)] : List Value).toArray s 0 0 (inA a)) (F0 m 175 ls []) := by
          intro n
          induction n with
          | zero =>
            intros; omega
          | succ n ih_175 =>
            intro i τ H locs hP hS ls ii fτ hm hl
            refine z_iload_n C hl 1 rfl dX8_passAll_175 ?_
            refine z_bipush C (by decide +kernel) dX8_passAll_176 ?_
            refine z_icmp_ge C 203 dX8_passAll_178 (by decide) ⟨by omega, by omega⟩ ⟨by omega, by omega⟩ (fun c_178 => ?_) (fun c_178 => ?_)
            · refine z_iconst C dX8_passAll_203 ?_
              refine z_istore_n C [1, 0] [(0, .ref (a 100)), (1, .int (iI 0))] hl (by decide) rfl dX8_passAll_204 (fun ls hl => ?_)
              have L_205 : ∀ (n : Nat) (i : Int) (τ : zS) (H : Heap) (locs : List Loc) (hP : GP D Y a τ H) (hS : va_S (inA a) s.heap H locs) (ls : Array Slot), (0 ≤ i ∧ i ≤ 6) → (jRd bb σ τ (48 + 4 * i) (48 + 4 * i)) → ((6 - i).toNat) < n → lv_has ls 2 [(0, .ref (a 100)), (1, .int (iI i))] → W p l e (zR 1) s m ([.ref (a 100)] : List Value).toArray below meth c H locs 0 0 (MQ below (zQv D Y a (fun τ => jRd bb σ τ 72 72)) ([.ref (a 100)] : List Value).toArray s 0 0 (inA a)) (F0 m 205 ls []) := by
                intro n
                induction n with
                | zero =>
                  intros; omega
                | succ n ih_205 =>
                  intro i τ H locs hP hS ls ii fτ hm hl
                  refine z_iload_n C hl 1 rfl dX8_passAll_205 ?_
                  refine z_bipush C (by decide +kernel) dX8_passAll_206 ?_
                  refine z_icmp_ge C 281 dX8_passAll_208 (by decide) ⟨by omega, by omega⟩ ⟨by omega, by omega⟩ (fun c_208 => ?_) (fun c_208 => ?_)
                  · exact z_retQv C hP hS hr hlocks (by have hi6 : i = 6 := (by omega); subst hi6; exact fτ) dX8_passAll_281
                  · refine z_aload_n C hl 0 rfl dX8_passAll_211 ?_
                    refine zg_X8_25 C hP dX8_passAll_212 ?_
                    refine z_iload_n C hl 1 rfl dX8_passAll_215 ?_
                    refine z_aload_n C hl 0 rfl dX8_passAll_216 ?_
                    refine z_aload_n C hl 0 rfl dX8_passAll_217 ?_
                    refine zg_X8_25 C hP dX8_passAll_218 ?_
                    refine z_iload_n C hl 1 rfl dX8_passAll_221 ?_
                    refine z_iald C hP ia_106 ⟨by omega, by omega⟩ dX8_passAll_222 ?_
                    refine z_vQi hS C hP (As := [.int (iI (τ 106 i))]) lk_X8_322 (c_X8_pass_r hI τ (τ 106 i) (bb + (48 + 4 * i)) fτ.2.1 ⟨by omega, by omega⟩ fτ.2.2.1) ob_100 rfl rfl rfl hl.1 rfl (Nat.le_of_ble_eq_true rfl) ⟨Nat.le_of_ble_eq_true rfl, Nat.le_of_ble_eq_true rfl⟩ ⟨Nat.zero_le _, Nat.zero_le _⟩ dX8_passAll_223 (fun r25 t26 H locs hp223 hP hS => ?_)
                    have ft26 : jRd bb σ t26 (48 + 4 * i + 1) (48 + 4 * i) := jRd_p (v := 0) fτ hbb.1 ⟨by omega, by omega, by omega⟩ hp223.2
                    have vt26 : r25 = σ 118 (bb + (48 + 4 * i)) := hp223.1.trans (fτ.1 118 _ (by omega))
                    refine z_iast C hP hS ia_106 ⟨by omega, by omega⟩ dX8_passAll_226 (fun H locs hP hS => ?_)
                    obtain ⟨t27, et27⟩ : ∃ z : zS, z = zU t26 106 i r25 := ⟨_, rfl⟩
                    rw [← et27] at hP
                    have ft27 : jRd bb σ t27 (48 + 4 * i + 1) (48 + 4 * i + 1) := jRd_s ft26 ⟨by omega, by omega⟩ ⟨by unfold jPc; omega, by unfold jPj; omega⟩ vt26 et27
                    refine z_aload_n C hl 0 rfl dX8_passAll_227 ?_
                    refine zg_X8_28 C hP dX8_passAll_228 ?_
                    refine z_iload_n C hl 1 rfl dX8_passAll_231 ?_
                    refine z_aload_n C hl 0 rfl dX8_passAll_232 ?_
                    refine z_aload_n C hl 0 rfl dX8_passAll_233 ?_
                    refine zg_X8_28 C hP dX8_passAll_234 ?_
                    refine z_iload_n C hl 1 rfl dX8_passAll_237 ?_
                    refine z_iald C hP ia_107 ⟨by omega, by omega⟩ dX8_passAll_238 ?_
                    refine z_vQi hS C hP (As := [.int (iI (t27 107 i))]) lk_X8_322 (c_X8_pass_r hI t27 (t27 107 i) (bb + (48 + 4 * i + 1)) ft27.2.1 ⟨by omega, by omega⟩ ft27.2.2.1) ob_100 rfl rfl rfl hl.1 rfl (Nat.le_of_ble_eq_true rfl) ⟨Nat.le_of_ble_eq_true rfl, Nat.le_of_ble_eq_true rfl⟩ ⟨Nat.zero_le _, Nat.zero_le _⟩ dX8_passAll_239 (fun r28 t29 H locs hp239 hP hS => ?_)
                    have ft29 : jRd bb σ t29 (48 + 4 * i + 1 + 1) (48 + 4 * i + 1) := jRd_p (v := 0) ft27 hbb.1 ⟨by omega, by omega, by omega⟩ hp239.2
                    have vt29 : r28 = σ 118 (bb + (48 + 4 * i + 1)) := hp239.1.trans (ft27.1 118 _ (by omega))
                    refine z_iast C hP hS ia_107 ⟨by omega, by omega⟩ dX8_passAll_242 (fun H locs hP hS => ?_)
                    obtain ⟨t30, et30⟩ : ∃ z : zS, z = zU t29 107 i r28 := ⟨_, rfl⟩
                    rw [← et30] at hP
                    have ft30 : jRd bb σ t30 (48 + 4 * i + 1 + 1) (48 + 4 * i + 1 + 1) := jRd_s ft29 ⟨by omega, by omega⟩ ⟨by unfold jPc; omega, by unfold jPj; omega⟩ vt29 et30
                    refine z_aload_n C hl 0 rfl dX8_passAll_243 ?_
                    refine zg_X8_31 C hP dX8_passAll_244 ?_
                    refine z_iload_n C hl 1 rfl dX8_passAll_247 ?_
                    refine z_aload_n C hl 0 rfl dX8_passAll_248 ?_
                    refine z_aload_n C hl 0 rfl dX8_passAll_249 ?_
                    refine zg_X8_31 C hP dX8_passAll_250 ?_
                    refine z_iload_n C hl 1 rfl dX8_passAll_253 ?_
                    refine z_iald C hP ia_108 ⟨by omega, by omega⟩ dX8_passAll_254 ?_
                    refine z_vQi hS C hP (As := [.int (iI (t30 108 i))]) lk_X8_322 (c_X8_pass_r hI t30 (t30 108 i) (bb + (48 + 4 * i + 1 + 1)) ft30.2.1 ⟨by omega, by omega⟩ ft30.2.2.1) ob_100 rfl rfl rfl hl.1 rfl (Nat.le_of_ble_eq_true rfl) ⟨Nat.le_of_ble_eq_true rfl, Nat.le_of_ble_eq_true rfl⟩ ⟨Nat.zero_le _, Nat.zero_le _⟩ dX8_passAll_255 (fun r31 t32 H locs hp255 hP hS => ?_)
                    have ft32 : jRd bb σ t32 (48 + 4 * i + 1 + 1 + 1) (48 + 4 * i + 1 + 1) := jRd_p (v := 0) ft30 hbb.1 ⟨by omega, by omega, by omega⟩ hp255.2
                    have vt32 : r31 = σ 118 (bb + (48 + 4 * i + 1 + 1)) := hp255.1.trans (ft30.1 118 _ (by omega))
                    refine z_iast C hP hS ia_108 ⟨by omega, by omega⟩ dX8_passAll_258 (fun H locs hP hS => ?_)
                    obtain ⟨t33, et33⟩ : ∃ z : zS, z = zU t32 108 i r31 := ⟨_, rfl⟩
                    rw [← et33] at hP
                    have ft33 : jRd bb σ t33 (48 + 4 * i + 1 + 1 + 1) (48 + 4 * i + 1 + 1 + 1) := jRd_s ft32 ⟨by omega, by omega⟩ ⟨by unfold jPc; omega, by unfold jPj; omega⟩ vt32 et33
                    refine z_aload_n C hl 0 rfl dX8_passAll_259 ?_
                    refine zg_X8_34 C hP dX8_passAll_260 ?_
                    refine z_iload_n C hl 1 rfl dX8_passAll_263 ?_
                    refine z_aload_n C hl 0 rfl dX8_passAll_264 ?_
                    refine z_aload_n C hl 0 rfl dX8_passAll_265 ?_
                    refine zg_X8_34 C hP dX8_passAll_266 ?_
                    refine z_iload_n C hl 1 rfl dX8_passAll_269 ?_
                    refine z_iald C hP ia_109 ⟨by omega, by omega⟩ dX8_passAll_270 ?_
                    refine z_vQi hS C hP (As := [.int (iI (t33 109 i))]) lk_X8_322 (c_X8_pass_r hI t33 (t33 109 i) (bb + (48 + 4 * i + 1 + 1 + 1)) ft33.2.1 ⟨by omega, by omega⟩ ft33.2.2.1) ob_100 rfl rfl rfl hl.1 rfl (Nat.le_of_ble_eq_true rfl) ⟨Nat.le_of_ble_eq_true rfl, Nat.le_of_ble_eq_true rfl⟩ ⟨Nat.zero_le _, Nat.zero_le _⟩ dX8_passAll_271 (fun r34 t35 H locs hp271 hP hS => ?_)
                    have ft35 : jRd bb σ t35 (48 + 4 * i + 1 + 1 + 1 + 1) (48 + 4 * i + 1 + 1 + 1) := jRd_p (v := 0) ft33 hbb.1 ⟨by omega, by omega, by omega⟩ hp271.2
                    have vt35 : r34 = σ 118 (bb + (48 + 4 * i + 1 + 1 + 1)) := hp271.1.trans (ft33.1 118 _ (by omega))
                    refine z_iast C hP hS ia_109 ⟨by omega, by omega⟩ dX8_passAll_274 (fun H locs hP hS => ?_)
                    obtain ⟨t36, et36⟩ : ∃ z : zS, z = zU t35 109 i r34 := ⟨_, rfl⟩
                    rw [← et36] at hP
                    have ft36 : jRd bb σ t36 (48 + 4 * i + 1 + 1 + 1 + 1) (48 + 4 * i + 1 + 1 + 1 + 1) := jRd_s ft35 ⟨by omega, by omega⟩ ⟨by unfold jPc; omega, by unfold jPj; omega⟩ vt35 et36
                    refine z_iinc C 1 [1, 0] [(0, .ref (a 100)), (1, .int (iI (i + 1)))] hl rfl (by decide) rfl dX8_passAll_275 (fun ls hl => ?_)
                    refine z_goto C 205 dX8_passAll_278 (by decide) ?_
                    exact ih_205 (i + 1) t36 H locs hP hS ls (by omega) (by rw [show (48 + 4 * (i + 1) : Int) = 48 + 4 * i + 1 + 1 + 1 + 1 from (by omega)]; exact ft36) (by omega) (lv_sub hl [0, 1] rfl)
              exact L_205 _ 0 τ _ _ hP hS ls (by omega) (by have hi4 : i = 24 := (by omega); subst hi4; exact fτ) (Nat.lt_succ_self _) (lv_sub hl [0, 1] rfl)
            · refine z_aload_n C hl 0 rfl dX8_passAll_181 ?_
              refine zg_X8_22 C hP dX8_passAll_182 ?_
              refine z_iload_n C hl 1 rfl dX8_passAll_185 ?_
              refine z_aload_n C hl 0 rfl dX8_passAll_186 ?_
              refine z_aload_n C hl 0 rfl dX8_passAll_187 ?_
              refine zg_X8_22 C hP dX8_passAll_188 ?_
              refine z_iload_n C hl 1 rfl dX8_passAll_191 ?_
              refine z_iald C hP ia_105 ⟨by omega, by omega⟩ dX8_passAll_192 ?_
              refine z_vQi hS C hP (As := [.int (iI (τ 105 i))]) lk_X8_322 (c_X8_pass_r hI τ (τ 105 i) (bb + (24 + i)) fτ.2.1 ⟨by omega, by omega⟩ fτ.2.2.1) ob_100 rfl rfl rfl hl.1 rfl (Nat.le_of_ble_eq_true rfl) ⟨Nat.le_of_ble_eq_true rfl, Nat.le_of_ble_eq_true rfl⟩ ⟨Nat.zero_le _, Nat.zero_le _⟩ dX8_passAll_193 (fun r37 t38 H locs hp193 hP hS => ?_)
              have ft38 : jRd bb σ t38 (24 + i + 1) (24 + i) := jRd_p (v := 0) fτ hbb.1 ⟨by omega, by omega, by omega⟩ hp193.2
              have vt38 : r37 = σ 118 (bb + (24 + i)) := hp193.1.trans (fτ.1 118 _ (by omega))
              refine z_iast C hP hS ia_105 ⟨by omega, by omega⟩ dX8_passAll_196 (fun H locs hP hS => ?_)
              obtain ⟨t39, et39⟩ : ∃ z : zS, z = zU t38 105 i r37 := ⟨_, rfl⟩
              rw [← et39] at hP
              have ft39 : jRd bb σ t39 (24 + i + 1) (24 + i + 1) := jRd_s ft38 ⟨by omega, by omega⟩ ⟨by unfold jPc; omega, by unfold jPj; omega⟩ vt38 et39
              refine z_iinc C 1 [1, 0] [(0, .ref (a 100)), (1, .int (iI (i + 1)))] hl rfl (by decide) rfl dX8_passAll_197 (fun ls hl => ?_)
              refine z_goto C 175 dX8_passAll_200 (by decide) ?_
              exact ih_175 (i + 1) t39 H locs hP hS ls (by omega) (by rw [show (24 + (i + 1) : Int) = 24 + i + 1 from (by omega)]; exact ft39) (by omega) (lv_sub hl [0, 1] rfl)
        exact L_175 _ 0 τ _ _ hP hS ls (by omega) (by have hi4 : i = 4 := (by omega); subst hi4; exact fτ) (Nat.lt_succ_self _) (lv_sub hl [0, 1] rfl)
      · refine z_aload_n C hl 0 rfl dX8_passAll_103 ?_
        refine zg_X8_7 C hP dX8_passAll_104 ?_
        refine z_iload_n C hl 1 rfl dX8_passAll_107 ?_
        refine z_aload_n C hl 0 rfl dX8_passAll_108 ?_
        refine z_aload_n C hl 0 rfl dX8_passAll_109 ?_
        refine zg_X8_7 C hP dX8_passAll_110 ?_
        refine z_iload_n C hl 1 rfl dX8_passAll_113 ?_
        refine z_iald C hP ia_101 ⟨by omega, by omega⟩ dX8_passAll_114 ?_
        refine z_vQi hS C hP (As := [.int (iI (τ 101 i))]) lk_X8_322 (c_X8_pass_r hI τ (τ 101 i) (bb + (8 + 4 * i)) fτ.2.1 ⟨by omega, by omega⟩ fτ.2.2.1) ob_100 rfl rfl rfl hl.1 rfl (Nat.le_of_ble_eq_true rfl) ⟨Nat.le_of_ble_eq_true rfl, Nat.le_of_ble_eq_true rfl⟩ ⟨Nat.zero_le _, Nat.zero_le _⟩ dX8_passAll_115 (fun r40 t41 H locs hp115 hP hS => ?_)
        have ft41 : jRd bb σ t41 (8 + 4 * i + 1) (8 + 4 * i) := jRd_p (v := 0) fτ hbb.1 ⟨by omega, by omega, by omega⟩ hp115.2
        have vt41 : r40 = σ 118 (bb + (8 + 4 * i)) := hp115.1.trans (fτ.1 118 _ (by omega))
        refine z_iast C hP hS ia_101 ⟨by omega, by omega⟩ dX8_passAll_118 (fun H locs hP hS => ?_)
        obtain ⟨t42, et42⟩ : ∃ z : zS, z = zU t41 101 i r40 := ⟨_, rfl⟩
        rw [← et42] at hP
        have ft42 : jRd bb σ t42 (8 + 4 * i + 1) (8 + 4 * i + 1) := jRd_s ft41 ⟨by omega, by omega⟩ ⟨by unfold jPc; omega, by unfold jPj; omega⟩ vt41 et42
        refine z_aload_n C hl 0 rfl dX8_passAll_119 ?_
        refine zg_X8_13 C hP dX8_passAll_120 ?_
        refine z_iload_n C hl 1 rfl dX8_passAll_123 ?_
        refine z_aload_n C hl 0 rfl dX8_passAll_124 ?_
        refine z_aload_n C hl 0 rfl dX8_passAll_125 ?_
        refine zg_X8_13 C hP dX8_passAll_126 ?_
        refine z_iload_n C hl 1 rfl dX8_passAll_129 ?_
        refine z_iald C hP ia_102 ⟨by omega, by omega⟩ dX8_passAll_130 ?_
        refine z_vQi hS C hP (As := [.int (iI (t42 102 i))]) lk_X8_322 (c_X8_pass_r hI t42 (t42 102 i) (bb + (8 + 4 * i + 1)) ft42.2.1 ⟨by omega, by omega⟩ ft42.2.2.1) ob_100 rfl rfl rfl hl.1 rfl (Nat.le_of_ble_eq_true rfl) ⟨Nat.le_of_ble_eq_true rfl, Nat.le_of_ble_eq_true rfl⟩ ⟨Nat.zero_le _, Nat.zero_le _⟩ dX8_passAll_131 (fun r43 t44 H locs hp131 hP hS => ?_)
        have ft44 : jRd bb σ t44 (8 + 4 * i + 1 + 1) (8 + 4 * i + 1) := jRd_p (v := 0) ft42 hbb.1 ⟨by omega, by omega, by omega⟩ hp131.2
        have vt44 : r43 = σ 118 (bb + (8 + 4 * i + 1)) := hp131.1.trans (ft42.1 118 _ (by omega))
        refine z_iast C hP hS ia_102 ⟨by omega, by omega⟩ dX8_passAll_134 (fun H locs hP hS => ?_)
        obtain ⟨t45, et45⟩ : ∃ z : zS, z = zU t44 102 i r43 := ⟨_, rfl⟩
        rw [← et45] at hP
        have ft45 : jRd bb σ t45 (8 + 4 * i + 1 + 1) (8 + 4 * i + 1 + 1) := jRd_s ft44 ⟨by omega, by omega⟩ ⟨by unfold jPc; omega, by unfold jPj; omega⟩ vt44 et45
        refine z_aload_n C hl 0 rfl dX8_passAll_135 ?_
        refine zg_X8_16 C hP dX8_passAll_136 ?_
        refine z_iload_n C hl 1 rfl dX8_passAll_139 ?_
        refine z_aload_n C hl 0 rfl dX8_passAll_140 ?_
        refine z_aload_n C hl 0 rfl dX8_passAll_141 ?_
        refine zg_X8_16 C hP dX8_passAll_142 ?_
        refine z_iload_n C hl 1 rfl dX8_passAll_145 ?_
        refine z_iald C hP ia_103 ⟨by omega, by omega⟩ dX8_passAll_146 ?_
        refine z_vQi hS C hP (As := [.int (iI (t45 103 i))]) lk_X8_322 (c_X8_pass_r hI t45 (t45 103 i) (bb + (8 + 4 * i + 1 + 1)) ft45.2.1 ⟨by omega, by omega⟩ ft45.2.2.1) ob_100 rfl rfl rfl hl.1 rfl (Nat.le_of_ble_eq_true rfl) ⟨Nat.le_of_ble_eq_true rfl, Nat.le_of_ble_eq_true rfl⟩ ⟨Nat.zero_le _, Nat.zero_le _⟩ dX8_passAll_147 (fun r46 t47 H locs hp147 hP hS => ?_)
        have ft47 : jRd bb σ t47 (8 + 4 * i + 1 + 1 + 1) (8 + 4 * i + 1 + 1) := jRd_p (v := 0) ft45 hbb.1 ⟨by omega, by omega, by omega⟩ hp147.2
        have vt47 : r46 = σ 118 (bb + (8 + 4 * i + 1 + 1)) := hp147.1.trans (ft45.1 118 _ (by omega))
        refine z_iast C hP hS ia_103 ⟨by omega, by omega⟩ dX8_passAll_150 (fun H locs hP hS => ?_)
        obtain ⟨t48, et48⟩ : ∃ z : zS, z = zU t47 103 i r46 := ⟨_, rfl⟩
        rw [← et48] at hP
        have ft48 : jRd bb σ t48 (8 + 4 * i + 1 + 1 + 1) (8 + 4 * i + 1 + 1 + 1) := jRd_s ft47 ⟨by omega, by omega⟩ ⟨by unfold jPc; omega, by unfold jPj; omega⟩ vt47 et48
        refine z_aload_n C hl 0 rfl dX8_passAll_151 ?_
        refine zg_X8_19 C hP dX8_passAll_152 ?_
        refine z_iload_n C hl 1 rfl dX8_passAll_155 ?_
        refine z_aload_n C hl 0 rfl dX8_passAll_156 ?_
        refine z_aload_n C hl 0 rfl dX8_passAll_157 ?_
        refine zg_X8_19 C hP dX8_passAll_158 ?_
        refine z_iload_n C hl 1 rfl dX8_passAll_161 ?_
        refine z_iald C hP ia_104 ⟨by omega, by omega⟩ dX8_passAll_162 ?_
        refine z_vQi hS C hP (As := [.int (iI (t48 104 i))]) lk_X8_322 (c_X8_pass_r hI t48 (t48 104 i) (bb + (8 + 4 * i + 1 + 1 + 1)) ft48.2.1 ⟨by omega, by omega⟩ ft48.2.2.1) ob_100 rfl rfl rfl hl.1 rfl (Nat.le_of_ble_eq_true rfl) ⟨Nat.le_of_ble_eq_true rfl, Nat.le_of_ble_eq_true rfl⟩ ⟨Nat.zero_le _, Nat.zero_le _⟩ dX8_passAll_163 (fun r49 t50 H locs hp163 hP hS => ?_)
        have ft50 : jRd bb σ t50 (8 + 4 * i + 1 + 1 + 1 + 1) (8 + 4 * i + 1 + 1 + 1) := jRd_p (v := 0) ft48 hbb.1 ⟨by omega, by omega, by omega⟩ hp163.2
        have vt50 : r49 = σ 118 (bb + (8 + 4 * i + 1 + 1 + 1)) := hp163.1.trans (ft48.1 118 _ (by omega))
        refine z_iast C hP hS ia_104 ⟨by omega, by omega⟩ dX8_passAll_166 (fun H locs hP hS => ?_)
        obtain ⟨t51, et51⟩ : ∃ z : zS, z = zU t50 104 i r49 := ⟨_, rfl⟩
        rw [← et51] at hP
        have ft51 : jRd bb σ t51 (8 + 4 * i + 1 + 1 + 1 + 1) (8 + 4 * i + 1 + 1 + 1 + 1) := jRd_s ft50 ⟨by omega, by omega⟩ ⟨by unfold jPc; omega, by unfold jPj; omega⟩ vt50 et51
        refine z_iinc C 1 [1, 0] [(0, .ref (a 100)), (1, .int (iI (i + 1)))] hl rfl (by decide) rfl dX8_passAll_167 (fun ls hl => ?_)
        refine z_goto C 98 dX8_passAll_170 (by decide) ?_
        exact ih_98 (i + 1) t51 H locs hP hS ls (by omega) (by rw [show (8 + 4 * (i + 1) : Int) = 8 + 4 * i + 1 + 1 + 1 + 1 from (by omega)]; exact ft51) (by omega) (lv_sub hl [0, 1] rfl)
  exact L_98 _ 0 t24 _ _ hP hS ls (by omega) (by exact ft24) (Nat.lt_succ_self _) (lv_sub hl [0, 1] rfl)

set_option maxRecDepth 20000 in
set_option maxHeartbeats 4000000 in
theorem c_X8_image_0 {l : Launch} {D : va_G} {Y : Nat → ClassId} {a : Int → Nat} (hI : zI a) (σ : zS)  : zMet l yX8_image cX8_image 2 (some .int) 2 (zPc D Y a σ [.ref (a 100), .int (iI 0)]) (zQi D Y a (fun r τ => r = 1 ∧ τ 119 0 = 1 ∧ τ 119 1 = σ 119 1 ∧ (∀ i : Int, 0 ≤ i → i < 72 → τ 118 (0 + i) = jKv σ i) ∧ (∀ c j : Int, c ≠ 119 → ¬ (c = 118 ∧ 0 ≤ j ∧ j < 0 + 72) → ¬ (c = 100 ∧ (j = 36 ∨ j = 37)) → τ c j = σ c j))) (inA a) := by
  refine z_start rfl (Nat.le_of_ble_eq_true rfl) hI ?_
  intro p e s m below meth c ls C hr hlocks hl hP
  have hS : va_S (inA a) s.heap s.heap [] := va_S.rf
  have hl : lv_has ls 2 [(0, .ref (a 100)), (1, .int (iI 0))] := hl
  skip
  refine z_iload_n C hl 1 rfl dX8_image_0 ?_
  refine z_i2l C ⟨by omega, by omega⟩ dX8_image_1 ?_
  refine z_lconst C (z := 0) rfl dX8_image_2 ?_
  refine z_lconst C (z := 1) rfl dX8_image_3 ?_
  refine z_sSi C hP (As := [.long (jI 0), .long (jI 0), .long (jI 1)]) lk_X8_86 (c_X8_in hI σ 0 0 1 ⟨by decide, by decide⟩ ⟨by decide, by decide⟩ ⟨by decide, by decide⟩) rfl hl.1 rfl (Nat.le_of_ble_eq_true rfl) ⟨Nat.le_of_ble_eq_true rfl, Nat.le_of_ble_eq_true rfl⟩ ⟨Nat.zero_le _, Nat.zero_le _⟩ dX8_image_4 ?_
  by_cases b_4 : (0 : Int) ≤ (0 : Int) ∧ (0 : Int) ≤ (1 : Int)
  · rw [show (if (0 : Int) ≤ (0 : Int) ∧ (0 : Int) ≤ (1 : Int) then (1 : Int) else 0) = 1 from if_pos b_4]
    refine z_ifT_ne C 13 dX8_image_7 (by decide) ⟨by decide, by decide⟩ (by decide) ?_
    refine z_aload_n C hl 0 rfl dX8_image_13 ?_
    refine z_bipush C (by decide +kernel) dX8_image_14 ?_
    refine z_iload_n C hl 1 rfl dX8_image_16 ?_
    refine z_imul C dX8_image_17 ?_
    rw [show (80 : Int) * 0 = 0 from rfl]
    refine zp_X8_319 C hP hS dX8_image_18 (fun H locs hP hS => ?_)
    obtain ⟨t1, et1⟩ : ∃ z : zS, z = zU σ 100 36 0 := ⟨_, rfl⟩
    rw [← et1] at hP
    refine z_aload_n C hl 0 rfl dX8_image_21 ?_
    refine z_iconst C dX8_image_22 ?_
    refine zp_X8_315 C hP hS (by omega) dX8_image_23 (fun H locs hP hS => ?_)
    obtain ⟨t2, et2⟩ : ∃ z : zS, z = zU t1 100 37 1 := ⟨_, rfl⟩
    rw [← et2] at hP
    have hkv : ∀ i : Int, 0 ≤ i → i < 72 → jKv t2 i = jKv σ i := fun i h1 h2 => by have hp := jP_b (i := i) ⟨h1, h2⟩; unfold jKv; rw [et2, et1, zU_ne (by omega), zU_ne (by omega)]
    have hfr : ∀ c j : Int, ¬ (c = 100 ∧ (j = 36 ∨ j = 37)) → t2 c j = σ c j := fun c j hc => by rw [et2, et1, zU_ne (by omega), zU_ne (by omega)]
    refine z_aload_n C hl 0 rfl dX8_image_26 ?_
    refine z_vQv hS C hP (As := []) lk_X8_325 (c_X8_passAll_w hI t2 0 ⟨by decide, by decide⟩ (by rw [et2, et1, zU_place (by decide), zU_same]) (by rw [et2, et1, zU_same])) ob_100 rfl rfl rfl hl.1 rfl (Nat.le_of_ble_eq_true rfl) ⟨Nat.le_of_ble_eq_true rfl, Nat.le_of_ble_eq_true rfl⟩ ⟨Nat.zero_le _, Nat.zero_le _⟩ dX8_image_27 (fun t4 H locs hp27 hP hS => ?_)
    refine z_aload_n C hl 0 rfl dX8_image_30 ?_
    refine zg_X8_64 C hP dX8_image_31 ?_
    refine z_iload_n C hl 1 rfl dX8_image_34 ?_
    refine z_iconst C dX8_image_35 ?_
    refine z_zast C hP hS za_119 ⟨by omega, by omega⟩ (by omega) dX8_image_36 (fun H locs hP hS => ?_)
    obtain ⟨t5, et5⟩ : ∃ z : zS, z = zU t4 119 0 1 := ⟨_, rfl⟩
    rw [← et5] at hP
    refine z_iconst C dX8_image_37 ?_
    exact z_retQi C hP hS hr hlocks rfl (by obtain ⟨q1, q2, q3, q4⟩ := hp27; subst_vars; exact ⟨rfl, by rw [zU_same], by rw [zU_place (by decide), q1 119 _ (by omega) (by omega), hfr 119 _ (by omega)], fun i h1 h2 => by rw [zU_cell (by decide), q4 i h1 h2, hkv i h1 h2], fun c j h1 h2 h3 => by rw [zU_cell h1, q1 c j (by omega) (by omega), hfr c j (by omega)]⟩) dX8_image_38
  · rw [show (if (0 : Int) ≤ (0 : Int) ∧ (0 : Int) ≤ (1 : Int) then (1 : Int) else 0) = 0 from if_neg b_4]
    refine z_ifF_ne C 13 dX8_image_7 (by decide) ⟨by decide, by decide⟩ (by decide) ?_
    exfalso; omega

set_option maxRecDepth 20000 in
set_option maxHeartbeats 4000000 in
theorem c_X8_restore_0 {l : Launch} {D : va_G} {Y : Nat → ClassId} {a : Int → Nat} (hI : zI a) (σ : zS)  (hk2 : σ 119 0 = 0 ∨ σ 119 0 = 1) : zMet l yX8_restore cX8_restore 2 (some .int) 2 (zPc D Y a σ [.ref (a 100), .int (iI 0)]) (zQi D Y a (fun r τ => (σ 119 0 = 0 → r = -3 ∧ τ = σ) ∧ (σ 119 0 = 1 → r = 1 ∧ (∀ i : Int, 0 ≤ i → i < 72 → jKv τ i = σ 118 (0 + i)) ∧ (∀ c j : Int, (c < 100 ∨ 109 < c ∨ (c = 100 ∧ 16 < j ∧ j ≠ 36 ∧ j ≠ 37)) → τ c j = σ c j)))) (inA a) := by
  refine z_start rfl (Nat.le_of_ble_eq_true rfl) hI ?_
  intro p e s m below meth c ls C hr hlocks hl hP
  have hS : va_S (inA a) s.heap s.heap [] := va_S.rf
  have hl : lv_has ls 2 [(0, .ref (a 100)), (1, .int (iI 0))] := hl
  skip
  refine z_iload_n C hl 1 rfl dX8_restore_0 ?_
  refine z_i2l C ⟨by omega, by omega⟩ dX8_restore_1 ?_
  refine z_lconst C (z := 0) rfl dX8_restore_2 ?_
  refine z_lconst C (z := 1) rfl dX8_restore_3 ?_
  refine z_sSi C hP (As := [.long (jI 0), .long (jI 0), .long (jI 1)]) lk_X8_86 (c_X8_in hI σ 0 0 1 ⟨by decide, by decide⟩ ⟨by decide, by decide⟩ ⟨by decide, by decide⟩) rfl hl.1 rfl (Nat.le_of_ble_eq_true rfl) ⟨Nat.le_of_ble_eq_true rfl, Nat.le_of_ble_eq_true rfl⟩ ⟨Nat.zero_le _, Nat.zero_le _⟩ dX8_restore_4 ?_
  by_cases b_4 : (0 : Int) ≤ (0 : Int) ∧ (0 : Int) ≤ (1 : Int)
  · rw [show (if (0 : Int) ≤ (0 : Int) ∧ (0 : Int) ≤ (1 : Int) then (1 : Int) else 0) = 1 from if_pos b_4]
    refine z_ifT_ne C 13 dX8_restore_7 (by decide) ⟨by decide, by decide⟩ (by decide) ?_
    refine z_aload_n C hl 0 rfl dX8_restore_13 ?_
    refine zg_X8_64 C hP dX8_restore_14 ?_
    refine z_iload_n C hl 1 rfl dX8_restore_17 ?_
    refine z_zald C hP za_119 ⟨by omega, by omega⟩ dX8_restore_18 ?_
    refine z_if_ne C 25 dX8_restore_19 (by decide) ⟨by omega, by omega⟩ (fun c_19 => ?_) (fun c_19 => ?_)
    · refine z_aload_n C hl 0 rfl dX8_restore_25 ?_
      refine z_bipush C (by decide +kernel) dX8_restore_26 ?_
      refine z_iload_n C hl 1 rfl dX8_restore_28 ?_
      refine z_imul C dX8_restore_29 ?_
      rw [show (80 : Int) * 0 = 0 from rfl]
      refine zp_X8_319 C hP hS dX8_restore_30 (fun H locs hP hS => ?_)
      obtain ⟨t1, et1⟩ : ∃ z : zS, z = zU σ 100 36 0 := ⟨_, rfl⟩
      rw [← et1] at hP
      refine z_aload_n C hl 0 rfl dX8_restore_33 ?_
      refine z_iconst C dX8_restore_34 ?_
      refine zp_X8_315 C hP hS (by omega) dX8_restore_35 (fun H locs hP hS => ?_)
      obtain ⟨t2, et2⟩ : ∃ z : zS, z = zU t1 100 37 0 := ⟨_, rfl⟩
      rw [← et2] at hP
      have hfr : ∀ c j : Int, ¬ (c = 100 ∧ (j = 36 ∨ j = 37)) → t2 c j = σ c j := fun c j hc => by rw [et2, et1, zU_ne (by omega), zU_ne (by omega)]
      refine z_aload_n C hl 0 rfl dX8_restore_38 ?_
      refine z_vQv hS C hP (As := []) lk_X8_325 (c_X8_passAll_r hI t2 0 ⟨by decide, by decide⟩ (by rw [et2, et1, zU_place (by decide), zU_same]) (by rw [et2, et1, zU_same])) ob_100 rfl rfl rfl hl.1 rfl (Nat.le_of_ble_eq_true rfl) ⟨Nat.le_of_ble_eq_true rfl, Nat.le_of_ble_eq_true rfl⟩ ⟨Nat.zero_le _, Nat.zero_le _⟩ dX8_restore_39 (fun t4 H locs hp39 hP hS => ?_)
      refine z_iconst C dX8_restore_42 ?_
      exact z_retQi C hP hS hr hlocks rfl (by obtain ⟨q1, q2, q3, q4⟩ := hp39; exact ⟨fun h => (by exfalso; omega), fun _ => ⟨rfl, fun i h1 h2 => by rw [q4 i h1 h2, hfr 118 _ (by omega)], fun c j h1 => by rw [q1 c j (by omega), hfr c j (by omega)]⟩⟩) dX8_restore_43
    · refine z_bipush C (by decide +kernel) dX8_restore_22 ?_
      exact z_retQi C hP hS hr hlocks rfl (by exact ⟨fun _ => ⟨rfl, rfl⟩, fun h => (by exfalso; omega)⟩) dX8_restore_24
  · rw [show (if (0 : Int) ≤ (0 : Int) ∧ (0 : Int) ≤ (1 : Int) then (1 : Int) else 0) = 0 from if_neg b_4]
    refine z_ifF_ne C 13 dX8_restore_7 (by decide) ⟨by decide, by decide⟩ (by decide) ?_
    exfalso; omega

set_option maxRecDepth 20000 in
set_option maxHeartbeats 4000000 in
theorem c_X8_image_1 {l : Launch} {D : va_G} {Y : Nat → ClassId} {a : Int → Nat} (hI : zI a) (σ : zS)  : zMet l yX8_image cX8_image 2 (some .int) 2 (zPc D Y a σ [.ref (a 100), .int (iI 1)]) (zQi D Y a (fun r τ => r = 1 ∧ τ 119 1 = 1 ∧ τ 119 0 = σ 119 0 ∧ (∀ i : Int, 0 ≤ i → i < 72 → τ 118 (80 + i) = jKv σ i) ∧ (∀ c j : Int, c ≠ 119 → ¬ (c = 118 ∧ 80 ≤ j ∧ j < 80 + 72) → ¬ (c = 100 ∧ (j = 36 ∨ j = 37)) → τ c j = σ c j))) (inA a) := by
  refine z_start rfl (Nat.le_of_ble_eq_true rfl) hI ?_
  intro p e s m below meth c ls C hr hlocks hl hP
  have hS : va_S (inA a) s.heap s.heap [] := va_S.rf
  have hl : lv_has ls 2 [(0, .ref (a 100)), (1, .int (iI 1))] := hl
  skip
  refine z_iload_n C hl 1 rfl dX8_image_0 ?_
  refine z_i2l C ⟨by omega, by omega⟩ dX8_image_1 ?_
  refine z_lconst C (z := 0) rfl dX8_image_2 ?_
  refine z_lconst C (z := 1) rfl dX8_image_3 ?_
  refine z_sSi C hP (As := [.long (jI 1), .long (jI 0), .long (jI 1)]) lk_X8_86 (c_X8_in hI σ 1 0 1 ⟨by decide, by decide⟩ ⟨by decide, by decide⟩ ⟨by decide, by decide⟩) rfl hl.1 rfl (Nat.le_of_ble_eq_true rfl) ⟨Nat.le_of_ble_eq_true rfl, Nat.le_of_ble_eq_true rfl⟩ ⟨Nat.zero_le _, Nat.zero_le _⟩ dX8_image_4 ?_
  by_cases b_4 : (0 : Int) ≤ (1 : Int) ∧ (1 : Int) ≤ (1 : Int)
  · rw [show (if (0 : Int) ≤ (1 : Int) ∧ (1 : Int) ≤ (1 : Int) then (1 : Int) else 0) = 1 from if_pos b_4]
    refine z_ifT_ne C 13 dX8_image_7 (by decide) ⟨by decide, by decide⟩ (by decide) ?_
    refine z_aload_n C hl 0 rfl dX8_image_13 ?_
    refine z_bipush C (by decide +kernel) dX8_image_14 ?_
    refine z_iload_n C hl 1 rfl dX8_image_16 ?_
    refine z_imul C dX8_image_17 ?_
    rw [show (80 : Int) * 1 = 80 from rfl]
    refine zp_X8_319 C hP hS dX8_image_18 (fun H locs hP hS => ?_)
    obtain ⟨t1, et1⟩ : ∃ z : zS, z = zU σ 100 36 80 := ⟨_, rfl⟩
    rw [← et1] at hP
    refine z_aload_n C hl 0 rfl dX8_image_21 ?_
    refine z_iconst C dX8_image_22 ?_
    refine zp_X8_315 C hP hS (by omega) dX8_image_23 (fun H locs hP hS => ?_)
    obtain ⟨t2, et2⟩ : ∃ z : zS, z = zU t1 100 37 1 := ⟨_, rfl⟩
    rw [← et2] at hP
    have hkv : ∀ i : Int, 0 ≤ i → i < 72 → jKv t2 i = jKv σ i := fun i h1 h2 => by have hp := jP_b (i := i) ⟨h1, h2⟩; unfold jKv; rw [et2, et1, zU_ne (by omega), zU_ne (by omega)]
    have hfr : ∀ c j : Int, ¬ (c = 100 ∧ (j = 36 ∨ j = 37)) → t2 c j = σ c j := fun c j hc => by rw [et2, et1, zU_ne (by omega), zU_ne (by omega)]
    refine z_aload_n C hl 0 rfl dX8_image_26 ?_
    refine z_vQv hS C hP (As := []) lk_X8_325 (c_X8_passAll_w hI t2 80 ⟨by decide, by decide⟩ (by rw [et2, et1, zU_place (by decide), zU_same]) (by rw [et2, et1, zU_same])) ob_100 rfl rfl rfl hl.1 rfl (Nat.le_of_ble_eq_true rfl) ⟨Nat.le_of_ble_eq_true rfl, Nat.le_of_ble_eq_true rfl⟩ ⟨Nat.zero_le _, Nat.zero_le _⟩ dX8_image_27 (fun t4 H locs hp27 hP hS => ?_)
    refine z_aload_n C hl 0 rfl dX8_image_30 ?_
    refine zg_X8_64 C hP dX8_image_31 ?_
    refine z_iload_n C hl 1 rfl dX8_image_34 ?_
    refine z_iconst C dX8_image_35 ?_
    refine z_zast C hP hS za_119 ⟨by omega, by omega⟩ (by omega) dX8_image_36 (fun H locs hP hS => ?_)
    obtain ⟨t5, et5⟩ : ∃ z : zS, z = zU t4 119 1 1 := ⟨_, rfl⟩
    rw [← et5] at hP
    refine z_iconst C dX8_image_37 ?_
    exact z_retQi C hP hS hr hlocks rfl (by obtain ⟨q1, q2, q3, q4⟩ := hp27; subst_vars; exact ⟨rfl, by rw [zU_same], by rw [zU_place (by decide), q1 119 _ (by omega) (by omega), hfr 119 _ (by omega)], fun i h1 h2 => by rw [zU_cell (by decide), q4 i h1 h2, hkv i h1 h2], fun c j h1 h2 h3 => by rw [zU_cell h1, q1 c j (by omega) (by omega), hfr c j (by omega)]⟩) dX8_image_38
  · rw [show (if (0 : Int) ≤ (1 : Int) ∧ (1 : Int) ≤ (1 : Int) then (1 : Int) else 0) = 0 from if_neg b_4]
    refine z_ifF_ne C 13 dX8_image_7 (by decide) ⟨by decide, by decide⟩ (by decide) ?_
    exfalso; omega

set_option maxRecDepth 20000 in
set_option maxHeartbeats 4000000 in
theorem c_X8_restore_1 {l : Launch} {D : va_G} {Y : Nat → ClassId} {a : Int → Nat} (hI : zI a) (σ : zS)  (hk2 : σ 119 1 = 0 ∨ σ 119 1 = 1) : zMet l yX8_restore cX8_restore 2 (some .int) 2 (zPc D Y a σ [.ref (a 100), .int (iI 1)]) (zQi D Y a (fun r τ => (σ 119 1 = 0 → r = -3 ∧ τ = σ) ∧ (σ 119 1 = 1 → r = 1 ∧ (∀ i : Int, 0 ≤ i → i < 72 → jKv τ i = σ 118 (80 + i)) ∧ (∀ c j : Int, (c < 100 ∨ 109 < c ∨ (c = 100 ∧ 16 < j ∧ j ≠ 36 ∧ j ≠ 37)) → τ c j = σ c j)))) (inA a) := by
  refine z_start rfl (Nat.le_of_ble_eq_true rfl) hI ?_
  intro p e s m below meth c ls C hr hlocks hl hP
  have hS : va_S (inA a) s.heap s.heap [] := va_S.rf
  have hl : lv_has ls 2 [(0, .ref (a 100)), (1, .int (iI 1))] := hl
  skip
  refine z_iload_n C hl 1 rfl dX8_restore_0 ?_
  refine z_i2l C ⟨by omega, by omega⟩ dX8_restore_1 ?_
  refine z_lconst C (z := 0) rfl dX8_restore_2 ?_
  refine z_lconst C (z := 1) rfl dX8_restore_3 ?_
  refine z_sSi C hP (As := [.long (jI 1), .long (jI 0), .long (jI 1)]) lk_X8_86 (c_X8_in hI σ 1 0 1 ⟨by decide, by decide⟩ ⟨by decide, by decide⟩ ⟨by decide, by decide⟩) rfl hl.1 rfl (Nat.le_of_ble_eq_true rfl) ⟨Nat.le_of_ble_eq_true rfl, Nat.le_of_ble_eq_true rfl⟩ ⟨Nat.zero_le _, Nat.zero_le _⟩ dX8_restore_4 ?_
  by_cases b_4 : (0 : Int) ≤ (1 : Int) ∧ (1 : Int) ≤ (1 : Int)
  · rw [show (if (0 : Int) ≤ (1 : Int) ∧ (1 : Int) ≤ (1 : Int) then (1 : Int) else 0) = 1 from if_pos b_4]
    refine z_ifT_ne C 13 dX8_restore_7 (by decide) ⟨by decide, by decide⟩ (by decide) ?_
    refine z_aload_n C hl 0 rfl dX8_restore_13 ?_
    refine zg_X8_64 C hP dX8_restore_14 ?_
    refine z_iload_n C hl 1 rfl dX8_restore_17 ?_
    refine z_zald C hP za_119 ⟨by omega, by omega⟩ dX8_restore_18 ?_
    refine z_if_ne C 25 dX8_restore_19 (by decide) ⟨by omega, by omega⟩ (fun c_19 => ?_) (fun c_19 => ?_)
    · refine z_aload_n C hl 0 rfl dX8_restore_25 ?_
      refine z_bipush C (by decide +kernel) dX8_restore_26 ?_
      refine z_iload_n C hl 1 rfl dX8_restore_28 ?_
      refine z_imul C dX8_restore_29 ?_
      rw [show (80 : Int) * 1 = 80 from rfl]
      refine zp_X8_319 C hP hS dX8_restore_30 (fun H locs hP hS => ?_)
      obtain ⟨t1, et1⟩ : ∃ z : zS, z = zU σ 100 36 80 := ⟨_, rfl⟩
      rw [← et1] at hP
      refine z_aload_n C hl 0 rfl dX8_restore_33 ?_
      refine z_iconst C dX8_restore_34 ?_
      refine zp_X8_315 C hP hS (by omega) dX8_restore_35 (fun H locs hP hS => ?_)
      obtain ⟨t2, et2⟩ : ∃ z : zS, z = zU t1 100 37 0 := ⟨_, rfl⟩
      rw [← et2] at hP
      have hfr : ∀ c j : Int, ¬ (c = 100 ∧ (j = 36 ∨ j = 37)) → t2 c j = σ c j := fun c j hc => by rw [et2, et1, zU_ne (by omega), zU_ne (by omega)]
      refine z_aload_n C hl 0 rfl dX8_restore_38 ?_
      refine z_vQv hS C hP (As := []) lk_X8_325 (c_X8_passAll_r hI t2 80 ⟨by decide, by decide⟩ (by rw [et2, et1, zU_place (by decide), zU_same]) (by rw [et2, et1, zU_same])) ob_100 rfl rfl rfl hl.1 rfl (Nat.le_of_ble_eq_true rfl) ⟨Nat.le_of_ble_eq_true rfl, Nat.le_of_ble_eq_true rfl⟩ ⟨Nat.zero_le _, Nat.zero_le _⟩ dX8_restore_39 (fun t4 H locs hp39 hP hS => ?_)
      refine z_iconst C dX8_restore_42 ?_
      exact z_retQi C hP hS hr hlocks rfl (by obtain ⟨q1, q2, q3, q4⟩ := hp39; exact ⟨fun h => (by exfalso; omega), fun _ => ⟨rfl, fun i h1 h2 => by rw [q4 i h1 h2, hfr 118 _ (by omega)], fun c j h1 => by rw [q1 c j (by omega), hfr c j (by omega)]⟩⟩) dX8_restore_43
    · refine z_bipush C (by decide +kernel) dX8_restore_22 ?_
      exact z_retQi C hP hS hr hlocks rfl (by exact ⟨fun _ => ⟨rfl, rfl⟩, fun h => (by exfalso; omega)⟩) dX8_restore_24
  · rw [show (if (0 : Int) ≤ (1 : Int) ∧ (1 : Int) ≤ (1 : Int) then (1 : Int) else 0) = 0 from if_neg b_4]
    refine z_ifF_ne C 13 dX8_restore_7 (by decide) ⟨by decide, by decide⟩ (by decide) ?_
    exfalso; omega

set_option maxRecDepth 20000 in
set_option maxHeartbeats 4000000 in
theorem c_X8_image_o {l : Launch} {D : va_G} {Y : Nat → ClassId} {a : Int → Nat} (hI : zI a) (σ : zS) (n0 : Int) (r1 : R3 n0) (ro : ¬ (0 ≤ n0 ∧ n0 ≤ 1)) : zMet l yX8_image cX8_image 2 (some .int) 2 (zPc D Y a σ [.ref (a 100), .int (iI n0)]) (zQi D Y a (fun r τ => r = -2 ∧ τ = σ)) (inA a) := by
  refine z_start rfl (Nat.le_of_ble_eq_true rfl) hI ?_
  intro p e s m below meth c ls C hr hlocks hl hP
  have hS : va_S (inA a) s.heap s.heap [] := va_S.rf
  have hl : lv_has ls 2 [(0, .ref (a 100)), (1, .int (iI n0))] := hl
  skip
  refine z_iload_n C hl 1 rfl dX8_image_0 ?_
  refine z_i2l C ⟨by omega, by omega⟩ dX8_image_1 ?_
  refine z_lconst C (z := 0) rfl dX8_image_2 ?_
  refine z_lconst C (z := 1) rfl dX8_image_3 ?_
  refine z_sSi C hP (As := [.long (jI n0), .long (jI 0), .long (jI 1)]) lk_X8_86 (c_X8_in hI σ n0 0 1 ⟨by omega, by omega⟩ ⟨by decide, by decide⟩ ⟨by decide, by decide⟩) rfl hl.1 rfl (Nat.le_of_ble_eq_true rfl) ⟨Nat.le_of_ble_eq_true rfl, Nat.le_of_ble_eq_true rfl⟩ ⟨Nat.zero_le _, Nat.zero_le _⟩ dX8_image_4 ?_
  by_cases b_4 : 0 ≤ n0 ∧ n0 ≤ 1
  · rw [show (if 0 ≤ n0 ∧ n0 ≤ 1 then (1 : Int) else 0) = 1 from if_pos b_4]
    refine z_ifT_ne C 13 dX8_image_7 (by decide) ⟨by decide, by decide⟩ (by decide) ?_
    exact absurd b_4 ro
  · rw [show (if 0 ≤ n0 ∧ n0 ≤ 1 then (1 : Int) else 0) = 0 from if_neg b_4]
    refine z_ifF_ne C 13 dX8_image_7 (by decide) ⟨by decide, by decide⟩ (by decide) ?_
    refine z_bipush C (by decide +kernel) dX8_image_10 ?_
    exact z_retQi C hP hS hr hlocks rfl (by exact ⟨rfl, rfl⟩) dX8_image_12

set_option maxRecDepth 20000 in
set_option maxHeartbeats 4000000 in
theorem c_X8_restore_o {l : Launch} {D : va_G} {Y : Nat → ClassId} {a : Int → Nat} (hI : zI a) (σ : zS) (n0 : Int) (r1 : R3 n0) (ro : ¬ (0 ≤ n0 ∧ n0 ≤ 1)) : zMet l yX8_restore cX8_restore 2 (some .int) 2 (zPc D Y a σ [.ref (a 100), .int (iI n0)]) (zQi D Y a (fun r τ => r = -2 ∧ τ = σ)) (inA a) := by
  refine z_start rfl (Nat.le_of_ble_eq_true rfl) hI ?_
  intro p e s m below meth c ls C hr hlocks hl hP
  have hS : va_S (inA a) s.heap s.heap [] := va_S.rf
  have hl : lv_has ls 2 [(0, .ref (a 100)), (1, .int (iI n0))] := hl
  skip
  refine z_iload_n C hl 1 rfl dX8_restore_0 ?_
  refine z_i2l C ⟨by omega, by omega⟩ dX8_restore_1 ?_
  refine z_lconst C (z := 0) rfl dX8_restore_2 ?_
  refine z_lconst C (z := 1) rfl dX8_restore_3 ?_
  refine z_sSi C hP (As := [.long (jI n0), .long (jI 0), .long (jI 1)]) lk_X8_86 (c_X8_in hI σ n0 0 1 ⟨by omega, by omega⟩ ⟨by decide, by decide⟩ ⟨by decide, by decide⟩) rfl hl.1 rfl (Nat.le_of_ble_eq_true rfl) ⟨Nat.le_of_ble_eq_true rfl, Nat.le_of_ble_eq_true rfl⟩ ⟨Nat.zero_le _, Nat.zero_le _⟩ dX8_restore_4 ?_
  by_cases b_4 : 0 ≤ n0 ∧ n0 ≤ 1
  · rw [show (if 0 ≤ n0 ∧ n0 ≤ 1 then (1 : Int) else 0) = 1 from if_pos b_4]
    refine z_ifT_ne C 13 dX8_restore_7 (by decide) ⟨by decide, by decide⟩ (by decide) ?_
    exact absurd b_4 ro
  · rw [show (if 0 ≤ n0 ∧ n0 ≤ 1 then (1 : Int) else 0) = 0 from if_neg b_4]
    refine z_ifF_ne C 13 dX8_restore_7 (by decide) ⟨by decide, by decide⟩ (by decide) ?_
    refine z_bipush C (by decide +kernel) dX8_restore_10 ?_
    exact z_retQi C hP hS hr hlocks rfl (by exact ⟨rfl, rfl⟩) dX8_restore_12

set_option maxRecDepth 20000 in
set_option maxHeartbeats 4000000 in
theorem c_X8_toldOf {l : Launch} {D : va_G} {Y : Nat → ClassId} {a : Int → Nat} (hI : zI a) (σ : zS) (rr wh : Int) (r1 : R3 rr) (r2 : R3 wh) (hrb : 0 ≤ σ 100 0 ∧ σ 100 0 ≤ 15) : zMet l yX8_toldOf cX8_toldOf 3 (some .int) 3 (zPc D Y a σ [.ref (a 100), .int (iI rr), .int (iI wh)]) (zSi (if 0 ≤ rr ∧ rr ≤ 3 ∧ mBit (σ 100 0) rr = 1 then (if wh = 0 then σ 101 rr else if wh = 1 then σ 102 rr else if wh = 2 then σ 103 rr else if wh = 3 then σ 104 rr else -2) else -2)) zNo := by
  refine z_start rfl (Nat.le_of_ble_eq_true rfl) hI ?_
  intro p e s m below meth c ls C hr hlocks hl hP
  have hl : lv_has ls 3 [(0, .ref (a 100)), (1, .int (iI rr)), (2, .int (iI wh))] := hl
  refine z_aload_n C hl 0 rfl dX8_toldOf_0 ?_
  refine z_iload_n C hl 1 rfl dX8_toldOf_1 ?_
  refine z_vSi C hP (As := [.int (iI rr)]) lk_X8_110 (c_X8_isThere hI σ rr r1 hrb) ob_100 rfl rfl rfl hl.1 rfl (Nat.le_of_ble_eq_true rfl) ⟨Nat.le_of_ble_eq_true rfl, Nat.le_of_ble_eq_true rfl⟩ ⟨Nat.zero_le _, Nat.zero_le _⟩ dX8_toldOf_2 ?_
  by_cases b_2 : 0 ≤ rr ∧ rr ≤ 3 ∧ mBit (σ 100 0) rr = 1
  · rw [show (if 0 ≤ rr ∧ rr ≤ 3 ∧ mBit (σ 100 0) rr = 1 then (1 : Int) else 0) = 1 from if_pos b_2]
    refine z_ifT_ne C 11 dX8_toldOf_5 (by decide) ⟨by decide, by decide⟩ (by decide) ?_
    refine z_iload_n C hl 2 rfl dX8_toldOf_11 ?_
    refine z_if_ne C 24 dX8_toldOf_12 (by decide) ⟨by omega, by omega⟩ (fun c_12 => ?_) (fun c_12 => ?_)
    · refine z_iload_n C hl 2 rfl dX8_toldOf_24 ?_
      refine z_iconst C dX8_toldOf_25 ?_
      refine z_icmp_ne C 38 dX8_toldOf_26 (by decide) ⟨by omega, by omega⟩ ⟨by omega, by omega⟩ (fun c_26 => ?_) (fun c_26 => ?_)
      · refine z_iload_n C hl 2 rfl dX8_toldOf_38 ?_
        refine z_iconst C dX8_toldOf_39 ?_
        refine z_icmp_ne C 52 dX8_toldOf_40 (by decide) ⟨by omega, by omega⟩ ⟨by omega, by omega⟩ (fun c_40 => ?_) (fun c_40 => ?_)
        · refine z_iload_n C hl 2 rfl dX8_toldOf_52 ?_
          refine z_iconst C dX8_toldOf_53 ?_
          refine z_icmp_ne C 66 dX8_toldOf_54 (by decide) ⟨by omega, by omega⟩ ⟨by omega, by omega⟩ (fun c_54 => ?_) (fun c_54 => ?_)
          · refine z_bipush C (by decide +kernel) dX8_toldOf_66 ?_
            exact z_retSi C hr hlocks rfl (by first | (rw [if_neg (by omega)]; done) | (rw [if_pos (by omega)]; simp [*])) dX8_toldOf_68
          · refine z_aload_n C hl 0 rfl dX8_toldOf_57 ?_
            refine zg_X8_19 C hP dX8_toldOf_58 ?_
            refine z_iload_n C hl 1 rfl dX8_toldOf_61 ?_
            refine z_iald C hP ia_104 ⟨by omega, by omega⟩ dX8_toldOf_62 ?_
            refine z_goto C 68 dX8_toldOf_63 (by decide) ?_
            exact z_retSi C hr hlocks rfl (by first | (rw [if_neg (by omega)]; done) | (rw [if_pos (by omega)]; simp [*])) dX8_toldOf_68
        · refine z_aload_n C hl 0 rfl dX8_toldOf_43 ?_
          refine zg_X8_16 C hP dX8_toldOf_44 ?_
          refine z_iload_n C hl 1 rfl dX8_toldOf_47 ?_
          refine z_iald C hP ia_103 ⟨by omega, by omega⟩ dX8_toldOf_48 ?_
          refine z_goto C 68 dX8_toldOf_49 (by decide) ?_
          exact z_retSi C hr hlocks rfl (by first | (rw [if_neg (by omega)]; done) | (rw [if_pos (by omega)]; simp [*])) dX8_toldOf_68
      · refine z_aload_n C hl 0 rfl dX8_toldOf_29 ?_
        refine zg_X8_13 C hP dX8_toldOf_30 ?_
        refine z_iload_n C hl 1 rfl dX8_toldOf_33 ?_
        refine z_iald C hP ia_102 ⟨by omega, by omega⟩ dX8_toldOf_34 ?_
        refine z_goto C 68 dX8_toldOf_35 (by decide) ?_
        exact z_retSi C hr hlocks rfl (by first | (rw [if_neg (by omega)]; done) | (rw [if_pos (by omega)]; simp [*])) dX8_toldOf_68
    · refine z_aload_n C hl 0 rfl dX8_toldOf_15 ?_
      refine zg_X8_7 C hP dX8_toldOf_16 ?_
      refine z_iload_n C hl 1 rfl dX8_toldOf_19 ?_
      refine z_iald C hP ia_101 ⟨by omega, by omega⟩ dX8_toldOf_20 ?_
      refine z_goto C 68 dX8_toldOf_21 (by decide) ?_
      exact z_retSi C hr hlocks rfl (by first | (rw [if_neg (by omega)]; done) | (rw [if_pos (by omega)]; simp [*])) dX8_toldOf_68
  · rw [show (if 0 ≤ rr ∧ rr ≤ 3 ∧ mBit (σ 100 0) rr = 1 then (1 : Int) else 0) = 0 from if_neg b_2]
    refine z_ifF_ne C 11 dX8_toldOf_5 (by decide) ⟨by decide, by decide⟩ (by decide) ?_
    refine z_bipush C (by decide +kernel) dX8_toldOf_8 ?_
    exact z_retSi C hr hlocks rfl (by first | (rw [if_neg (by omega)]; done) | (rw [if_pos (by omega)]; simp [*])) dX8_toldOf_10

set_option maxRecDepth 20000 in
set_option maxHeartbeats 4000000 in
theorem c_X8_told {l : Launch} {D : va_G} {Y : Nat → ClassId} {a : Int → Nat} (hI : zI a) (σ : zS) (wh : Int) (r1 : R3 wh) (hrb : 0 ≤ σ 100 0 ∧ σ 100 0 ≤ 15) (hnm : 1 ≤ σ 100 11 ∧ σ 100 11 ≤ 24) : zMet l yX8_told cX8_told 2 (some .int) 4 (zPc D Y a σ [.ref (a 100), .int (iI wh)]) (zSi (if 10 ≤ wh ∧ wh ≤ 49 then (if 0 ≤ (wh / 10 - 1) ∧ (wh / 10 - 1) ≤ 3 ∧ mBit (σ 100 0) (wh / 10 - 1) = 1 then (if wh % 10 = 0 then σ 101 (wh / 10 - 1) else if wh % 10 = 1 then σ 102 (wh / 10 - 1) else if wh % 10 = 2 then σ 103 (wh / 10 - 1) else if wh % 10 = 3 then σ 104 (wh / 10 - 1) else -2) else -2) else if 100 ≤ wh ∧ wh ≤ 99 + σ 100 11 then σ 105 (wh - 100) else if wh = 0 then σ 100 18 else if wh = 1 then σ 100 0 else if wh = 2 then σ 100 5 else if wh = 3 then σ 100 6 else if wh = 4 then σ 100 7 else if wh = 5 then σ 100 8 else if wh = 6 then σ 100 9 else if wh = 7 then σ 100 11 else if wh = 8 then σ 100 16 else -2)) zNo := by
  refine z_start rfl (Nat.le_of_ble_eq_true rfl) hI ?_
  intro p e s m below meth c ls C hr hlocks hl hP
  have hl : lv_has ls 2 [(0, .ref (a 100)), (1, .int (iI wh))] := hl
  refine z_iload_n C hl 1 rfl dX8_told_0 ?_
  refine z_i2l C ⟨by omega, by omega⟩ dX8_told_1 ?_
  refine z_ldc2 C (z := 10) wd_170 (by decide +kernel) dX8_told_2 ?_
  refine z_ldc2 C (z := 49) wd_902 (by decide +kernel) dX8_told_5 ?_
  refine z_sSi C hP (As := [.long (jI wh), .long (jI 10), .long (jI 49)]) lk_X8_86 (c_X8_in hI σ wh 10 49 ⟨by omega, by omega⟩ ⟨by omega, by omega⟩ ⟨by omega, by omega⟩) rfl hl.1 rfl (Nat.le_of_ble_eq_true rfl) ⟨Nat.le_of_ble_eq_true rfl, Nat.le_of_ble_eq_true rfl⟩ ⟨Nat.zero_le _, Nat.zero_le _⟩ dX8_told_8 ?_
  by_cases b_8 : 10 ≤ wh ∧ wh ≤ 49
  · rw [show (if 10 ≤ wh ∧ wh ≤ 49 then (1 : Int) else 0) = 1 from if_pos b_8]
    refine z_ifF_eq C 29 dX8_told_11 (by decide) ⟨by decide, by decide⟩ (by decide) ?_
    refine z_aload_n C hl 0 rfl dX8_told_14 ?_
    refine z_iload_n C hl 1 rfl dX8_told_15 ?_
    refine z_bipush C (by decide +kernel) dX8_told_16 ?_
    refine z_idiv C ⟨by omega, by omega, by omega, by omega⟩ dX8_told_18 ?_
    refine z_iconst C dX8_told_19 ?_
    refine z_isub C dX8_told_20 ?_
    refine z_iload_n C hl 1 rfl dX8_told_21 ?_
    refine z_bipush C (by decide +kernel) dX8_told_22 ?_
    refine z_irem C ⟨by omega, by omega, by omega, by omega⟩ dX8_told_24 ?_
    refine z_vSi C hP (As := [.int (iI ((wh / 10) - 1)), .int (iI (wh % 10))]) lk_X8_330 (c_X8_toldOf hI σ ((wh / 10) - 1) (wh % 10) ⟨by omega, by omega⟩ ⟨by omega, by omega⟩ hrb) ob_100 rfl rfl rfl hl.1 rfl (Nat.le_of_ble_eq_true rfl) ⟨Nat.le_of_ble_eq_true rfl, Nat.le_of_ble_eq_true rfl⟩ ⟨Nat.zero_le _, Nat.zero_le _⟩ dX8_told_25 ?_
    exact z_retSi C hr hlocks rfl (by exact (if_pos b_8).symm) dX8_told_28
  · rw [show (if 10 ≤ wh ∧ wh ≤ 49 then (1 : Int) else 0) = 0 from if_neg b_8]
    refine z_ifT_eq C 29 dX8_told_11 (by decide) ⟨by decide, by decide⟩ (by decide) ?_
    refine z_iload_n C hl 1 rfl dX8_told_29 ?_
    refine z_i2l C ⟨by omega, by omega⟩ dX8_told_30 ?_
    refine z_ldc2 C (z := 100) wd_903 (by decide +kernel) dX8_told_31 ?_
    refine z_ldc2 C (z := 99) wd_214 (by decide +kernel) dX8_told_34 ?_
    refine z_aload_n C hl 0 rfl dX8_told_37 ?_
    refine zg_X8_81 C hP dX8_told_38 ?_
    refine z_i2l C ⟨by omega, by omega⟩ dX8_told_41 ?_
    refine z_ladd C dX8_told_42 ?_
    refine z_sSi C hP (As := [.long (jI wh), .long (jI 100), .long (jI (99 + (σ 100 11)))]) lk_X8_86 (c_X8_in hI σ wh 100 (99 + (σ 100 11)) ⟨by omega, by omega⟩ ⟨by omega, by omega⟩ ⟨by omega, by omega⟩) rfl hl.1 rfl (Nat.le_of_ble_eq_true rfl) ⟨Nat.le_of_ble_eq_true rfl, Nat.le_of_ble_eq_true rfl⟩ ⟨Nat.zero_le _, Nat.zero_le _⟩ dX8_told_43 ?_
    by_cases b_43 : 100 ≤ wh ∧ wh ≤ (99 + (σ 100 11))
    · rw [show (if 100 ≤ wh ∧ wh ≤ (99 + (σ 100 11)) then (1 : Int) else 0) = 1 from if_pos b_43]
      refine z_ifF_eq C 59 dX8_told_46 (by decide) ⟨by decide, by decide⟩ (by decide) ?_
      refine z_aload_n C hl 0 rfl dX8_told_49 ?_
      refine zg_X8_22 C hP dX8_told_50 ?_
      refine z_iload_n C hl 1 rfl dX8_told_53 ?_
      refine z_bipush C (by decide +kernel) dX8_told_54 ?_
      refine z_isub C dX8_told_56 ?_
      refine z_iald C hP ia_105 ⟨by omega, by omega⟩ dX8_told_57 ?_
      exact z_retSi C hr hlocks rfl (by (first | (rw [if_pos (by omega)]; done) | (rw [if_neg (by omega), if_pos (by omega)]; done) | (rw [if_neg (by omega), if_neg (by omega)]; simp [*]))) dX8_told_58
    · rw [show (if 100 ≤ wh ∧ wh ≤ (99 + (σ 100 11)) then (1 : Int) else 0) = 0 from if_neg b_43]
      refine z_ifT_eq C 59 dX8_told_46 (by decide) ⟨by decide, by decide⟩ (by decide) ?_
      refine z_iload_n C hl 1 rfl dX8_told_59 ?_
      by_cases q_60_0 : wh = 0
      · refine z_tswIn C 0 q_60_0 ⟨⟨by decide, by decide⟩, by decide, by decide⟩ (off := 52) (by decide +kernel) 112 (by decide) dX8_told_60 ?_
        refine z_aload_n C hl 0 rfl dX8_told_112 ?_
        refine zg_X8_124 C hP dX8_told_113 ?_
        exact z_retSi C hr hlocks rfl (by (first | (rw [if_pos (by omega)]; done) | (rw [if_neg (by omega), if_pos (by omega)]; done) | (rw [if_neg (by omega), if_neg (by omega)]; simp [*]))) dX8_told_116
      by_cases q_60_1 : wh = 1
      · refine z_tswIn C 1 q_60_1 ⟨⟨by decide, by decide⟩, by decide, by decide⟩ (off := 57) (by decide +kernel) 117 (by decide) dX8_told_60 ?_
        refine z_aload_n C hl 0 rfl dX8_told_117 ?_
        refine zg_X8_94 C hP dX8_told_118 ?_
        exact z_retSi C hr hlocks rfl (by (first | (rw [if_pos (by omega)]; done) | (rw [if_neg (by omega), if_pos (by omega)]; done) | (rw [if_neg (by omega), if_neg (by omega)]; simp [*]))) dX8_told_121
      by_cases q_60_2 : wh = 2
      · refine z_tswIn C 2 q_60_2 ⟨⟨by decide, by decide⟩, by decide, by decide⟩ (off := 62) (by decide +kernel) 122 (by decide) dX8_told_60 ?_
        refine z_aload_n C hl 0 rfl dX8_told_122 ?_
        refine zg_X8_113 C hP dX8_told_123 ?_
        exact z_retSi C hr hlocks rfl (by (first | (rw [if_pos (by omega)]; done) | (rw [if_neg (by omega), if_pos (by omega)]; done) | (rw [if_neg (by omega), if_neg (by omega)]; simp [*]))) dX8_told_126
      by_cases q_60_3 : wh = 3
      · refine z_tswIn C 3 q_60_3 ⟨⟨by decide, by decide⟩, by decide, by decide⟩ (off := 67) (by decide +kernel) 127 (by decide) dX8_told_60 ?_
        refine z_aload_n C hl 0 rfl dX8_told_127 ?_
        refine zg_X8_68 C hP dX8_told_128 ?_
        exact z_retSi C hr hlocks rfl (by (first | (rw [if_pos (by omega)]; done) | (rw [if_neg (by omega), if_pos (by omega)]; done) | (rw [if_neg (by omega), if_neg (by omega)]; simp [*]))) dX8_told_131
      by_cases q_60_4 : wh = 4
      · refine z_tswIn C 4 q_60_4 ⟨⟨by decide, by decide⟩, by decide, by decide⟩ (off := 72) (by decide +kernel) 132 (by decide) dX8_told_60 ?_
        refine z_aload_n C hl 0 rfl dX8_told_132 ?_
        refine zg_X8_72 C hP dX8_told_133 ?_
        exact z_retSi C hr hlocks rfl (by (first | (rw [if_pos (by omega)]; done) | (rw [if_neg (by omega), if_pos (by omega)]; done) | (rw [if_neg (by omega), if_neg (by omega)]; simp [*]))) dX8_told_136
      by_cases q_60_5 : wh = 5
      · refine z_tswIn C 5 q_60_5 ⟨⟨by decide, by decide⟩, by decide, by decide⟩ (off := 77) (by decide +kernel) 137 (by decide) dX8_told_60 ?_
        refine z_aload_n C hl 0 rfl dX8_told_137 ?_
        refine zg_X8_75 C hP dX8_told_138 ?_
        exact z_retSi C hr hlocks rfl (by (first | (rw [if_pos (by omega)]; done) | (rw [if_neg (by omega), if_pos (by omega)]; done) | (rw [if_neg (by omega), if_neg (by omega)]; simp [*]))) dX8_told_141
      by_cases q_60_6 : wh = 6
      · refine z_tswIn C 6 q_60_6 ⟨⟨by decide, by decide⟩, by decide, by decide⟩ (off := 82) (by decide +kernel) 142 (by decide) dX8_told_60 ?_
        refine z_aload_n C hl 0 rfl dX8_told_142 ?_
        refine zg_X8_78 C hP dX8_told_143 ?_
        exact z_retSi C hr hlocks rfl (by (first | (rw [if_pos (by omega)]; done) | (rw [if_neg (by omega), if_pos (by omega)]; done) | (rw [if_neg (by omega), if_neg (by omega)]; simp [*]))) dX8_told_146
      by_cases q_60_7 : wh = 7
      · refine z_tswIn C 7 q_60_7 ⟨⟨by decide, by decide⟩, by decide, by decide⟩ (off := 87) (by decide +kernel) 147 (by decide) dX8_told_60 ?_
        refine z_aload_n C hl 0 rfl dX8_told_147 ?_
        refine zg_X8_81 C hP dX8_told_148 ?_
        exact z_retSi C hr hlocks rfl (by (first | (rw [if_pos (by omega)]; done) | (rw [if_neg (by omega), if_pos (by omega)]; done) | (rw [if_neg (by omega), if_neg (by omega)]; simp [*]))) dX8_told_151
      by_cases q_60_8 : wh = 8
      · refine z_tswIn C 8 q_60_8 ⟨⟨by decide, by decide⟩, by decide, by decide⟩ (off := 92) (by decide +kernel) 152 (by decide) dX8_told_60 ?_
        refine z_aload_n C hl 0 rfl dX8_told_152 ?_
        refine zg_X8_301 C hP dX8_told_153 ?_
        exact z_retSi C hr hlocks rfl (by (first | (rw [if_pos (by omega)]; done) | (rw [if_neg (by omega), if_pos (by omega)]; done) | (rw [if_neg (by omega), if_neg (by omega)]; simp [*]))) dX8_told_156
      refine z_tswOut C ⟨by omega, by omega⟩ (by omega) 157 (by decide) dX8_told_60 ?_
      refine z_bipush C (by decide +kernel) dX8_told_157 ?_
      exact z_retSi C hr hlocks rfl (by (first | (rw [if_pos (by omega)]; done) | (rw [if_neg (by omega), if_pos (by omega)]; done) | (rw [if_neg (by omega), if_neg (by omega)]; simp [*]))) dX8_told_159
