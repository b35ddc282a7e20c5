set_option maxRecDepth 20000 in
set_option maxHeartbeats 4000000 in
theorem c_X8_treadOf {l : Launch} {D : va_G} {Y : Nat → ClassId} {a : Int → Nat} (hI : zI a) (σ : zS) (rr ef b : Int) (hrr : 0 ≤ rr ∧ rr ≤ 3) (hs : 0 ≤ σ 101 rr ∧ σ 101 rr ≤ 20) (hl2 : 0 ≤ σ 102 rr ∧ σ 102 rr ≤ 10) (he : 0 ≤ ef ∧ ef ≤ 4) (hb : 4 ≤ b ∧ b ≤ 10) : zMet l yX8_treadOf cX8_treadOf 5 (some .int) 0 (zPc D Y a σ [.ref (a 100), .int (iI rr), .int (iI ef), .int (iI b)]) (zSi (mTread (σ 101 rr) (σ 102 rr) ef b)) zNo := by
  refine z_start rfl (Nat.le_of_ble_eq_true rfl) hI ?_
  intro p e s m below meth c ls C hr hlocks hl hP
  have hl : lv_has ls 5 [(0, .ref (a 100)), (1, .int (iI rr)), (2, .int (iI ef)), (3, .int (iI b))] := hl
  have hm := mulb he hs
  refine z_iload_n C hl 3 rfl dX8_treadOf_0 ?_
  refine z_aload_n C hl 0 rfl dX8_treadOf_1 ?_
  refine zg_X8_13 C hP dX8_treadOf_2 ?_
  refine z_iload_n C hl 1 rfl dX8_treadOf_5 ?_
  refine z_iald C hP ia_102 ⟨by omega, by omega⟩ dX8_treadOf_6 ?_
  refine z_isub C dX8_treadOf_7 ?_
  refine z_topi (fun x1 hx1 => ?_)
  refine z_istore C [1, 2, 3, 4, 0] [(0, .ref (a 100)), (1, .int (iI rr)), (2, .int (iI ef)), (3, .int (iI b)), (4, .int (iI x1))] hl (by decide) rfl dX8_treadOf_8 (fun ls hl => ?_)
  refine z_iload_n C hl 2 rfl dX8_treadOf_10 ?_
  refine z_aload_n C hl 0 rfl dX8_treadOf_11 ?_
  refine zg_X8_7 C hP dX8_treadOf_12 ?_
  refine z_iload_n C hl 1 rfl dX8_treadOf_15 ?_
  refine z_iald C hP ia_101 ⟨by omega, by omega⟩ dX8_treadOf_16 ?_
  refine z_imul C dX8_treadOf_17 ?_
  refine z_bipush C (by decide +kernel) dX8_treadOf_18 ?_
  refine z_iload C hl 4 rfl dX8_treadOf_20 ?_
  refine z_if_ge C 31 dX8_treadOf_22 (by decide) ⟨by omega, by omega⟩ (fun c_22 => ?_) (fun c_22 => ?_)
  · refine z_iload C hl 4 rfl dX8_treadOf_31 ?_
    refine z_isub C dX8_treadOf_33 ?_
    have hn4 := mulb (x := ef * σ 101 rr) (y := (10 - x1)) (A := 80) (B := 10) (by omega) (by omega)
    refine z_imul C dX8_treadOf_34 ?_
    refine z_bipush C (by decide +kernel) dX8_treadOf_35 ?_
    refine z_idiv C ⟨by omega, by omega, by omega, by omega⟩ dX8_treadOf_37 ?_
    exact z_retSi C hr hlocks rfl (by unfold mTread mAbs; (first | (rw [if_pos (by omega)]; subst_vars; rfl) | (rw [if_neg (by omega)]; subst_vars; rfl))) dX8_treadOf_38
  · refine z_iload C hl 4 rfl dX8_treadOf_25 ?_
    refine z_ineg C dX8_treadOf_27 ?_
    refine z_goto C 33 dX8_treadOf_28 (by decide) ?_
    refine z_isub C dX8_treadOf_33 ?_
    have hn4 := mulb (x := ef * σ 101 rr) (y := (10 - (-x1))) (A := 80) (B := 10) (by omega) (by omega)
    refine z_imul C dX8_treadOf_34 ?_
    refine z_bipush C (by decide +kernel) dX8_treadOf_35 ?_
    refine z_idiv C ⟨by omega, by omega, by omega, by omega⟩ dX8_treadOf_37 ?_
    exact z_retSi C hr hlocks rfl (by unfold mTread mAbs; (first | (rw [if_pos (by omega)]; subst_vars; rfl) | (rw [if_neg (by omega)]; subst_vars; rfl))) dX8_treadOf_38

set_option maxRecDepth 20000 in
set_option maxHeartbeats 4000000 in
theorem c_X8_winded {l : Launch} {D : va_G} {Y : Nat → ClassId} {a : Int → Nat} (hI : zI a) (σ : zS) (rr now ef : Int) (hrr : 0 ≤ rr ∧ rr ≤ 3) (hw : 0 ≤ σ 103 rr ∧ σ 103 rr ≤ 9) (ha : -100 ≤ now ∧ now ≤ 100) (he : 0 ≤ ef ∧ ef ≤ 4) : zMet l yX8_winded cX8_winded 5 (some .int) 0 (zPc D Y a σ [.ref (a 100), .int (iI rr), .int (iI now), .int (iI ef)]) (zSi (mWind (σ 103 rr) now ef)) zNo := by
  refine z_start rfl (Nat.le_of_ble_eq_true rfl) hI ?_
  intro p e s m below meth c ls C hr hlocks hl hP
  have hl : lv_has ls 5 [(0, .ref (a 100)), (1, .int (iI rr)), (2, .int (iI now)), (3, .int (iI ef))] := hl
  refine z_iload_n C hl 2 rfl dX8_winded_0 ?_
  refine z_iload_n C hl 3 rfl dX8_winded_1 ?_
  refine z_isub C dX8_winded_2 ?_
  refine z_iconst C dX8_winded_3 ?_
  refine z_iadd C dX8_winded_4 ?_
  refine z_topi (fun x1 hx1 => ?_)
  refine z_istore C [1, 2, 3, 4, 0] [(0, .ref (a 100)), (1, .int (iI rr)), (2, .int (iI now)), (3, .int (iI ef)), (4, .int (iI x1))] hl (by decide) rfl dX8_winded_5 (fun ls hl => ?_)
  refine z_iload C hl 4 rfl dX8_winded_7 ?_
  refine z_aload_n C hl 0 rfl dX8_winded_9 ?_
  refine zg_X8_16 C hP dX8_winded_10 ?_
  refine z_iload_n C hl 1 rfl dX8_winded_13 ?_
  refine z_iald C hP ia_103 ⟨by omega, by omega⟩ dX8_winded_14 ?_
  refine z_icmp_ge C 23 dX8_winded_15 (by decide) ⟨by omega, by omega⟩ ⟨by omega, by omega⟩ (fun c_15 => ?_) (fun c_15 => ?_)
  · refine z_aload_n C hl 0 rfl dX8_winded_23 ?_
    refine zg_X8_16 C hP dX8_winded_24 ?_
    refine z_iload_n C hl 1 rfl dX8_winded_27 ?_
    refine z_iald C hP ia_103 ⟨by omega, by omega⟩ dX8_winded_28 ?_
    exact z_retSi C hr hlocks rfl (by unfold mWind; omega) dX8_winded_29
  · refine z_iload C hl 4 rfl dX8_winded_18 ?_
    refine z_goto C 29 dX8_winded_20 (by decide) ?_
    exact z_retSi C hr hlocks rfl (by unfold mWind; omega) dX8_winded_29

set_option maxRecDepth 20000 in
set_option maxHeartbeats 4000000 in
theorem c_X8_isNobody {l : Launch} {D : va_G} {Y : Nat → ClassId} {a : Int → Nat} (hI : zI a) (σ : zS)  (hrb : 0 ≤ σ 100 0 ∧ σ 100 0 ≤ 15) (hse : (0 ≤ σ 100 5 ∧ σ 100 5 ≤ 3) ∧ (0 ≤ σ 100 6 ∧ σ 100 6 ≤ 3)) : zMet l yX8_isNobody cX8_isNobody 1 (some .boolean) 3 (zPc D Y a σ [.ref (a 100)]) (zSi (if ¬ (mBit (σ 100 0) (σ 100 5) = 1 ∧ mBit (σ 100 0) (σ 100 6) = 1 ∧ σ 100 5 ≠ σ 100 6) then (1 : Int) else 0)) zNo := by
  refine z_start rfl (Nat.le_of_ble_eq_true rfl) hI ?_
  intro p e s m below meth c ls C hr hlocks hl hP
  have hl : lv_has ls 1 [(0, .ref (a 100))] := hl
  refine z_aload_n C hl 0 rfl dX8_isNobody_0 ?_
  refine z_aload_n C hl 0 rfl dX8_isNobody_1 ?_
  refine zg_X8_113 C hP dX8_isNobody_2 ?_
  refine z_vSi C hP (As := [.int (iI (σ 100 5))]) lk_X8_110 (c_X8_isThere hI σ (σ 100 5) ⟨by omega, by omega⟩ hrb) ob_100 rfl rfl rfl hl.1 rfl (Nat.le_of_ble_eq_true rfl) ⟨Nat.le_of_ble_eq_true rfl, Nat.le_of_ble_eq_true rfl⟩ ⟨Nat.zero_le _, Nat.zero_le _⟩ dX8_isNobody_5 ?_
  by_cases b_5 : 0 ≤ (σ 100 5) ∧ (σ 100 5) ≤ 3 ∧ mBit (σ 100 0) (σ 100 5) = 1
  · rw [show (if 0 ≤ (σ 100 5) ∧ (σ 100 5) ≤ 3 ∧ mBit (σ 100 0) (σ 100 5) = 1 then (1 : Int) else 0) = 1 from if_pos b_5]
    refine z_ifF_eq C 33 dX8_isNobody_8 (by decide) ⟨by decide, by decide⟩ (by decide) ?_
    refine z_aload_n C hl 0 rfl dX8_isNobody_11 ?_
    refine z_aload_n C hl 0 rfl dX8_isNobody_12 ?_
    refine zg_X8_68 C hP dX8_isNobody_13 ?_
    refine z_vSi C hP (As := [.int (iI (σ 100 6))]) lk_X8_110 (c_X8_isThere hI σ (σ 100 6) ⟨by omega, by omega⟩ hrb) ob_100 rfl rfl rfl hl.1 rfl (Nat.le_of_ble_eq_true rfl) ⟨Nat.le_of_ble_eq_true rfl, Nat.le_of_ble_eq_true rfl⟩ ⟨Nat.zero_le _, Nat.zero_le _⟩ dX8_isNobody_16 ?_
    by_cases b_16 : 0 ≤ (σ 100 6) ∧ (σ 100 6) ≤ 3 ∧ mBit (σ 100 0) (σ 100 6) = 1
    · rw [show (if 0 ≤ (σ 100 6) ∧ (σ 100 6) ≤ 3 ∧ mBit (σ 100 0) (σ 100 6) = 1 then (1 : Int) else 0) = 1 from if_pos b_16]
      refine z_ifF_eq C 33 dX8_isNobody_19 (by decide) ⟨by decide, by decide⟩ (by decide) ?_
      refine z_aload_n C hl 0 rfl dX8_isNobody_22 ?_
      refine zg_X8_113 C hP dX8_isNobody_23 ?_
      refine z_aload_n C hl 0 rfl dX8_isNobody_26 ?_
      refine zg_X8_68 C hP dX8_isNobody_27 ?_
      refine z_icmp_ne C 37 dX8_isNobody_30 (by decide) ⟨by omega, by omega⟩ ⟨by omega, by omega⟩ (fun c_30 => ?_) (fun c_30 => ?_)
      · refine z_iconst C dX8_isNobody_37 ?_
        exact z_retSi C hr hlocks (zNb (by first | omega | (split <;> omega))) (by first | rfl | (rw [if_pos (by omega)]) | (rw [if_neg (by omega)]) | omega) dX8_isNobody_38
      · refine z_iconst C dX8_isNobody_33 ?_
        refine z_goto C 38 dX8_isNobody_34 (by decide) ?_
        exact z_retSi C hr hlocks (zNb (by first | omega | (split <;> omega))) (by first | rfl | (rw [if_pos (by omega)]) | (rw [if_neg (by omega)]) | omega) dX8_isNobody_38
    · rw [show (if 0 ≤ (σ 100 6) ∧ (σ 100 6) ≤ 3 ∧ mBit (σ 100 0) (σ 100 6) = 1 then (1 : Int) else 0) = 0 from if_neg b_16]
      refine z_ifT_eq C 33 dX8_isNobody_19 (by decide) ⟨by decide, by decide⟩ (by decide) ?_
      refine z_iconst C dX8_isNobody_33 ?_
      refine z_goto C 38 dX8_isNobody_34 (by decide) ?_
      exact z_retSi C hr hlocks (zNb (by first | omega | (split <;> omega))) (by first | rfl | (rw [if_pos (by omega)]) | (rw [if_neg (by omega)]) | omega) dX8_isNobody_38
  · rw [show (if 0 ≤ (σ 100 5) ∧ (σ 100 5) ≤ 3 ∧ mBit (σ 100 0) (σ 100 5) = 1 then (1 : Int) else 0) = 0 from if_neg b_5]
    refine z_ifT_eq C 33 dX8_isNobody_8 (by decide) ⟨by decide, by decide⟩ (by decide) ?_
    refine z_iconst C dX8_isNobody_33 ?_
    refine z_goto C 38 dX8_isNobody_34 (by decide) ?_
    exact z_retSi C hr hlocks (zNb (by first | omega | (split <;> omega))) (by first | rfl | (rw [if_pos (by omega)]) | (rw [if_neg (by omega)]) | omega) dX8_isNobody_38

def mBegM (σ : zS) : zS := zU (zU (zU (zU (zU (zU (zU (zU σ 100 23 (-6)) 100 24 (-6)) 100 25 0) 100 26 (σ 103 (σ 100 5))) 100 27 (σ 103 (σ 100 6))) 100 28 0) 100 29 0) 100 30 0
def mRestM (σ : zS) : zS := zU (zU (zU (zU σ 100 25 (σ 100 25 + σ 100 8)) 100 26 (σ 103 (σ 100 5))) 100 27 (σ 103 (σ 100 6))) 100 28 0
set_option maxRecDepth 20000 in
set_option maxHeartbeats 4000000 in
theorem c_X8_begin {l : Launch} {D : va_G} {Y : Nat → ClassId} {a : Int → Nat} (hI : zI a) (σ : zS)  (hse : (0 ≤ σ 100 5 ∧ σ 100 5 ≤ 3) ∧ (0 ≤ σ 100 6 ∧ σ 100 6 ≤ 3)) : zMet l yX8_begin cX8_begin 1 none 0 (zPc D Y a σ [.ref (a 100)]) (zQv D Y a (fun τ => τ = mBegM σ)) (inA a) := by
  refine z_start rfl (Nat.le_of_ble_eq_true rfl) hI ?_
  intro p e s m below meth c ls C hr hlocks hl hP
  have hS : va_S (inA a) s.heap s.heap [] := va_S.rf
  have hl : lv_has ls 1 [(0, .ref (a 100))] := hl
  skip
  refine z_aload_n C hl 0 rfl dX8_begin_0 ?_
  refine z_bipush C (by decide +kernel) dX8_begin_1 ?_
  refine zp_X8_156 C hP hS dX8_begin_3 (fun H locs hP hS => ?_)
  obtain ⟨t1, et1⟩ : ∃ z : zS, z = zU σ 100 23 (-6) := ⟨_, rfl⟩
  rw [← et1] at hP
  refine z_aload_n C hl 0 rfl dX8_begin_6 ?_
  refine z_bipush C (by decide +kernel) dX8_begin_7 ?_
  refine zp_X8_159 C hP hS dX8_begin_9 (fun H locs hP hS => ?_)
  obtain ⟨t2, et2⟩ : ∃ z : zS, z = zU t1 100 24 (-6) := ⟨_, rfl⟩
  rw [← et2] at hP
  refine z_aload_n C hl 0 rfl dX8_begin_12 ?_
  refine z_iconst C dX8_begin_13 ?_
  refine zp_X8_162 C hP hS dX8_begin_14 (fun H locs hP hS => ?_)
  obtain ⟨t3, et3⟩ : ∃ z : zS, z = zU t2 100 25 0 := ⟨_, rfl⟩
  rw [← et3] at hP
  refine z_aload_n C hl 0 rfl dX8_begin_17 ?_
  refine z_aload_n C hl 0 rfl dX8_begin_18 ?_
  refine zg_X8_16 C hP dX8_begin_19 ?_
  refine z_aload_n C hl 0 rfl dX8_begin_22 ?_
  refine zg_X8_113 C hP dX8_begin_23 ?_
  rw [show t3 100 5 = σ 100 5 from by rw [et3, zU_place (by decide), et2, zU_place (by decide), et1, zU_place (by decide)]]
  refine z_iald C hP ia_103 ⟨by omega, by omega⟩ dX8_begin_26 ?_
  rw [show t3 103 (σ 100 5) = σ 103 (σ 100 5) from by rw [et3, zU_cell (by decide), et2, zU_cell (by decide), et1, zU_cell (by decide)]]
  refine zp_X8_165 C hP hS dX8_begin_27 (fun H locs hP hS => ?_)
  obtain ⟨t4, et4⟩ : ∃ z : zS, z = zU t3 100 26 (σ 103 (σ 100 5)) := ⟨_, rfl⟩
  rw [← et4] at hP
  refine z_aload_n C hl 0 rfl dX8_begin_30 ?_
  refine z_aload_n C hl 0 rfl dX8_begin_31 ?_
  refine zg_X8_16 C hP dX8_begin_32 ?_
  refine z_aload_n C hl 0 rfl dX8_begin_35 ?_
  refine zg_X8_68 C hP dX8_begin_36 ?_
  rw [show t4 100 6 = σ 100 6 from by rw [et4, zU_place (by decide), et3, zU_place (by decide), et2, zU_place (by decide), et1, zU_place (by decide)]]
  refine z_iald C hP ia_103 ⟨by omega, by omega⟩ dX8_begin_39 ?_
  rw [show t4 103 (σ 100 6) = σ 103 (σ 100 6) from by rw [et4, zU_cell (by decide), et3, zU_cell (by decide), et2, zU_cell (by decide), et1, zU_cell (by decide)]]
  refine zp_X8_168 C hP hS dX8_begin_40 (fun H locs hP hS => ?_)
  obtain ⟨t5, et5⟩ : ∃ z : zS, z = zU t4 100 27 (σ 103 (σ 100 6)) := ⟨_, rfl⟩
  rw [← et5] at hP
  refine z_aload_n C hl 0 rfl dX8_begin_43 ?_
  refine z_iconst C dX8_begin_44 ?_
  refine zp_X8_171 C hP hS dX8_begin_45 (fun H locs hP hS => ?_)
  obtain ⟨t6, et6⟩ : ∃ z : zS, z = zU t5 100 28 0 := ⟨_, rfl⟩
  rw [← et6] at hP
  refine z_aload_n C hl 0 rfl dX8_begin_48 ?_
  refine z_iconst C dX8_begin_49 ?_
  refine zp_X8_174 C hP hS dX8_begin_50 (fun H locs hP hS => ?_)
  obtain ⟨t7, et7⟩ : ∃ z : zS, z = zU t6 100 29 0 := ⟨_, rfl⟩
  rw [← et7] at hP
  refine z_aload_n C hl 0 rfl dX8_begin_53 ?_
  refine z_iconst C dX8_begin_54 ?_
  refine zp_X8_177 C hP hS dX8_begin_55 (fun H locs hP hS => ?_)
  obtain ⟨t8, et8⟩ : ∃ z : zS, z = zU t7 100 30 0 := ⟨_, rfl⟩
  rw [← et8] at hP
  exact z_retQv C hP hS hr hlocks (by subst_vars; rfl) dX8_begin_58

set_option maxRecDepth 20000 in
set_option maxHeartbeats 4000000 in
theorem c_X8_rest {l : Launch} {D : va_G} {Y : Nat → ClassId} {a : Int → Nat} (hI : zI a) (σ : zS)  (hse : (0 ≤ σ 100 5 ∧ σ 100 5 ≤ 3) ∧ (0 ≤ σ 100 6 ∧ σ 100 6 ≤ 3)) (hpz : 0 ≤ σ 100 8 ∧ σ 100 8 ≤ 99) (hsp : 0 ≤ σ 100 25 ∧ σ 100 25 ≤ 100000) : zMet l yX8_rest cX8_rest 1 none 0 (zPc D Y a σ [.ref (a 100)]) (zQv D Y a (fun τ => τ = mRestM σ)) (inA a) := by
  refine z_start rfl (Nat.le_of_ble_eq_true rfl) hI ?_
  intro p e s m below meth c ls C hr hlocks hl hP
  have hS : va_S (inA a) s.heap s.heap [] := va_S.rf
  have hl : lv_has ls 1 [(0, .ref (a 100))] := hl
  skip
  refine z_aload_n C hl 0 rfl dX8_rest_0 ?_
  refine z_dup C rfl dX8_rest_1 ?_
  refine zg_X8_162 C hP dX8_rest_2 ?_
  refine z_aload_n C hl 0 rfl dX8_rest_5 ?_
  refine zg_X8_75 C hP dX8_rest_6 ?_
  refine z_iadd C dX8_rest_9 ?_
  refine zp_X8_162 C hP hS dX8_rest_10 (fun H locs hP hS => ?_)
  obtain ⟨t1, et1⟩ : ∃ z : zS, z = zU σ 100 25 ((σ 100 25) + (σ 100 8)) := ⟨_, rfl⟩
  rw [← et1] at hP
  refine z_aload_n C hl 0 rfl dX8_rest_13 ?_
  refine z_aload_n C hl 0 rfl dX8_rest_14 ?_
  refine zg_X8_16 C hP dX8_rest_15 ?_
  refine z_aload_n C hl 0 rfl dX8_rest_18 ?_
  refine zg_X8_113 C hP dX8_rest_19 ?_
  rw [show t1 100 5 = σ 100 5 from by rw [et1, zU_place (by decide)]]
  refine z_iald C hP ia_103 ⟨by omega, by omega⟩ dX8_rest_22 ?_
  rw [show t1 103 (σ 100 5) = σ 103 (σ 100 5) from by rw [et1, zU_cell (by decide)]]
  refine zp_X8_165 C hP hS dX8_rest_23 (fun H locs hP hS => ?_)
  obtain ⟨t2, et2⟩ : ∃ z : zS, z = zU t1 100 26 (σ 103 (σ 100 5)) := ⟨_, rfl⟩
  rw [← et2] at hP
  refine z_aload_n C hl 0 rfl dX8_rest_26 ?_
  refine z_aload_n C hl 0 rfl dX8_rest_27 ?_
  refine zg_X8_16 C hP dX8_rest_28 ?_
  refine z_aload_n C hl 0 rfl dX8_rest_31 ?_
  refine zg_X8_68 C hP dX8_rest_32 ?_
  rw [show t2 100 6 = σ 100 6 from by rw [et2, zU_place (by decide), et1, zU_place (by decide)]]
  refine z_iald C hP ia_103 ⟨by omega, by omega⟩ dX8_rest_35 ?_
  rw [show t2 103 (σ 100 6) = σ 103 (σ 100 6) from by rw [et2, zU_cell (by decide), et1, zU_cell (by decide)]]
  refine zp_X8_168 C hP hS dX8_rest_36 (fun H locs hP hS => ?_)
  obtain ⟨t3, et3⟩ : ∃ z : zS, z = zU t2 100 27 (σ 103 (σ 100 6)) := ⟨_, rfl⟩
  rw [← et3] at hP
  refine z_aload_n C hl 0 rfl dX8_rest_39 ?_
  refine z_iconst C dX8_rest_40 ?_
  refine zp_X8_171 C hP hS dX8_rest_41 (fun H locs hP hS => ?_)
  obtain ⟨t4, et4⟩ : ∃ z : zS, z = zU t3 100 28 0 := ⟨_, rfl⟩
  rw [← et4] at hP
  exact z_retQv C hP hS hr hlocks (by subst_vars; rfl) dX8_rest_44
