def jWF (σ : zS) (n : Nat) : Int := rdW (σ 103 (σ 100 5)) (σ 111) (σ 112) n
def jWB (σ : zS) (n : Nat) : Int := rdW (σ 103 (σ 100 6)) (σ 111) (σ 113) n
def jH (σ : zS) (n : Nat) : Int := rdH (σ 111) (fun i => mSort (σ 105 i)) n
def jTF (σ : zS) (i : Int) : Int := mTread (σ 101 (σ 100 5)) (σ 102 (σ 100 5)) (σ 112 i) (σ 114 i)
def jTB (σ : zS) (i : Int) : Int := mTread (σ 101 (σ 100 6)) (σ 102 (σ 100 6)) (σ 113 i) (σ 114 i)
def jT (σ : zS) (i : Int) : Int := mSec (mHard (mSort (σ 105 i))) (jTF σ i + jTB σ i)
def jS (σ : zS) (n : Nat) : Int := rdS (σ 100 8) (σ 111) (jT σ) n
def jY (σ : zS) (i : Int) : Int := mWhy (jWF σ (i + 1).toNat) (jWB σ (i + 1).toNat) (jH σ (i + 1).toNat) (σ 100 7)
def jSame (σ τ : zS) : Prop := ∀ c j : Int, ¬ (c = 100 ∧ 23 ≤ j ∧ j ≤ 30) → τ c j = σ c j
theorem jSame_z {σ τ : zS} {i v : Int} (h : jSame σ τ) (hi : 23 ≤ i ∧ i ≤ 30) : jSame σ (zU τ 100 i v) := fun c j hc => by
  unfold zU
  rw [if_neg (fun q => hc ⟨q.1, by omega, by omega⟩)]
  exact h c j hc
theorem jSame_r (σ : zS) : jSame σ (mRestM σ) := jSame_z (jSame_z (jSame_z (jSame_z (fun _ _ _ => rfl) (by decide)) (by decide)) (by decide)) (by decide)
set_option maxRecDepth 20000 in
set_option maxHeartbeats 4000000 in
theorem c_X8_rideOne {l : Launch} {D : va_G} {Y : Nat → ClassId} {a : Int → Nat} (hI : zI a) (σ : zS) (k : Int) (hk : 0 ≤ k ∧ k < 24) (hse : (0 ≤ σ 100 5 ∧ σ 100 5 ≤ 3) ∧ (0 ≤ σ 100 6 ∧ σ 100 6 ≤ 3)) (hrd : ∀ r : Int, 0 ≤ r → r ≤ 3 → (0 ≤ σ 101 r ∧ σ 101 r ≤ 20) ∧ (0 ≤ σ 102 r ∧ σ 102 r ≤ 10) ∧ (0 ≤ σ 103 r ∧ σ 103 r ≤ 9)) (hho : 5 ≤ σ 100 7 ∧ σ 100 7 ≤ 20) (hpz : 0 ≤ σ 100 8 ∧ σ 100 8 ≤ 99) (hpk : (σ 111 k = 0 ∨ σ 111 k = 1) ∧ (0 ≤ σ 112 k ∧ σ 112 k ≤ 4) ∧ (0 ≤ σ 113 k ∧ σ 113 k ≤ 4) ∧ (4 ≤ σ 114 k ∧ σ 114 k ≤ 10)) (hch : 0 ≤ σ 105 k ∧ σ 105 k ≤ 200) (h26 : 0 ≤ σ 100 26 ∧ σ 100 26 ≤ 9) (h27 : 0 ≤ σ 100 27 ∧ σ 100 27 ≤ 9) (h28 : 0 ≤ σ 100 28 ∧ σ 100 28 ≤ 20) (h25 : 0 ≤ σ 100 25 ∧ σ 100 25 ≤ 10000) (h29 : 0 ≤ σ 100 29 ∧ σ 100 29 ≤ 10000) (h30 : 0 ≤ σ 100 30 ∧ σ 100 30 ≤ 10000) : zMet l yX8_rideOne cX8_rideOne 5 none 3 (zPc D Y a σ [.ref (a 100), .int (iI k)]) (zQv D Y a (fun τ => jSame σ τ ∧ τ 100 26 = mWind (σ 103 (σ 100 5)) (if σ 111 k = 1 then σ 103 (σ 100 5) else σ 100 26) (σ 112 k) ∧ τ 100 27 = mWind (σ 103 (σ 100 6)) (if σ 111 k = 1 then σ 103 (σ 100 6) else σ 100 27) (σ 113 k) ∧ τ 100 28 = mHeat (if σ 111 k = 1 then 0 else σ 100 28) (mSort (σ 105 k)) ∧ τ 100 24 = mWhy (τ 100 26) (τ 100 27) (τ 100 28) (σ 100 7) ∧ τ 100 23 = (if τ 100 24 = -6 then -6 else k) ∧ τ 100 29 = σ 100 29 + jTF σ k ∧ τ 100 30 = σ 100 30 + jTB σ k ∧ τ 100 25 = (if σ 111 k = 1 then σ 100 25 + σ 100 8 else σ 100 25) + jT σ k)) (inA a) := by
  refine z_start rfl (Nat.le_of_ble_eq_true rfl) hI ?_
  intro p e s m below meth c ls C hr hlocks hl hP
  have hS : va_S (inA a) s.heap s.heap [] := va_S.rf
  have hl : lv_has ls 5 [(0, .ref (a 100)), (1, .int (iI k))] := hl
  have hf := hrd _ hse.1.1 hse.1.2
  have hb := hrd _ hse.2.1 hse.2.2
  skip
  refine z_aload_n C hl 0 rfl dX8_rideOne_0 ?_
  refine zg_X8_40 C hP dX8_rideOne_1 ?_
  refine z_iload_n C hl 1 rfl dX8_rideOne_4 ?_
  refine z_iald C hP ia_111 ⟨by omega, by omega⟩ dX8_rideOne_5 ?_
  refine z_iconst C dX8_rideOne_6 ?_
  refine z_icmp_ne C 14 dX8_rideOne_7 (by decide) ⟨by omega, by omega⟩ ⟨by omega, by omega⟩ (fun c_7 => ?_) (fun c_7 => ?_)
  · refine z_aload_n C hl 0 rfl dX8_rideOne_14 ?_
    refine z_aload_n C hl 0 rfl dX8_rideOne_15 ?_
    refine zg_X8_113 C hP dX8_rideOne_16 ?_
    refine z_aload_n C hl 0 rfl dX8_rideOne_19 ?_
    refine zg_X8_43 C hP dX8_rideOne_20 ?_
    refine z_iload_n C hl 1 rfl dX8_rideOne_23 ?_
    refine z_iald C hP ia_112 ⟨by omega, by omega⟩ dX8_rideOne_24 ?_
    refine z_aload_n C hl 0 rfl dX8_rideOne_25 ?_
    refine zg_X8_49 C hP dX8_rideOne_26 ?_
    refine z_iload_n C hl 1 rfl dX8_rideOne_29 ?_
    refine z_iald C hP ia_114 ⟨by omega, by omega⟩ dX8_rideOne_30 ?_
    refine z_vSi C hP (As := [.int (iI (σ 100 5)), .int (iI (σ 112 k)), .int (iI (σ 114 k))]) lk_X8_152 (c_X8_treadOf hI σ (σ 100 5) (σ 112 k) (σ 114 k) hse.1 (by try rw [show σ 101 = σ 101 from rfl]; exact hf.1) (by try rw [show σ 102 = σ 102 from rfl]; exact hf.2.1) hpk.2.1 hpk.2.2.2) ob_100 rfl rfl rfl hl.1 rfl (Nat.le_of_ble_eq_true rfl) ⟨Nat.le_of_ble_eq_true rfl, Nat.le_of_ble_eq_true rfl⟩ ⟨Nat.zero_le _, Nat.zero_le _⟩ dX8_rideOne_31 ?_
    try rw [show σ 101 = σ 101 from rfl]
    try rw [show σ 102 = σ 102 from rfl]
    have tfb := mTread_b hf.1 hf.2.1 hpk.2.1 hpk.2.2.2
    refine z_topi (fun x1 hx1 => ?_)
    refine z_istore_n C [1, 2, 0] [(0, .ref (a 100)), (1, .int (iI k)), (2, .int (iI x1))] hl (by decide) rfl dX8_rideOne_34 (fun ls hl => ?_)
    refine z_aload_n C hl 0 rfl dX8_rideOne_35 ?_
    refine z_aload_n C hl 0 rfl dX8_rideOne_36 ?_
    refine zg_X8_68 C hP dX8_rideOne_37 ?_
    refine z_aload_n C hl 0 rfl dX8_rideOne_40 ?_
    refine zg_X8_46 C hP dX8_rideOne_41 ?_
    refine z_iload_n C hl 1 rfl dX8_rideOne_44 ?_
    refine z_iald C hP ia_113 ⟨by omega, by omega⟩ dX8_rideOne_45 ?_
    refine z_aload_n C hl 0 rfl dX8_rideOne_46 ?_
    refine zg_X8_49 C hP dX8_rideOne_47 ?_
    refine z_iload_n C hl 1 rfl dX8_rideOne_50 ?_
    refine z_iald C hP ia_114 ⟨by omega, by omega⟩ dX8_rideOne_51 ?_
    refine z_vSi C hP (As := [.int (iI (σ 100 6)), .int (iI (σ 113 k)), .int (iI (σ 114 k))]) lk_X8_152 (c_X8_treadOf hI σ (σ 100 6) (σ 113 k) (σ 114 k) hse.2 (by try rw [show σ 101 = σ 101 from rfl]; exact hb.1) (by try rw [show σ 102 = σ 102 from rfl]; exact hb.2.1) hpk.2.2.1 hpk.2.2.2) ob_100 rfl rfl rfl hl.1 rfl (Nat.le_of_ble_eq_true rfl) ⟨Nat.le_of_ble_eq_true rfl, Nat.le_of_ble_eq_true rfl⟩ ⟨Nat.zero_le _, Nat.zero_le _⟩ dX8_rideOne_52 ?_
    try rw [show σ 101 = σ 101 from rfl]
    try rw [show σ 102 = σ 102 from rfl]
    have tbb := mTread_b hb.1 hb.2.1 hpk.2.2.1 hpk.2.2.2
    refine z_topi (fun x2 hx2 => ?_)
    refine z_istore_n C [1, 2, 3, 0] [(0, .ref (a 100)), (1, .int (iI k)), (2, .int (iI x1)), (3, .int (iI x2))] hl (by decide) rfl dX8_rideOne_55 (fun ls hl => ?_)
    refine z_aload_n C hl 0 rfl dX8_rideOne_56 ?_
    refine z_aload_n C hl 0 rfl dX8_rideOne_57 ?_
    refine z_aload_n C hl 0 rfl dX8_rideOne_58 ?_
    refine zg_X8_113 C hP dX8_rideOne_59 ?_
    refine z_aload_n C hl 0 rfl dX8_rideOne_62 ?_
    refine zg_X8_165 C hP dX8_rideOne_63 ?_
    refine z_aload_n C hl 0 rfl dX8_rideOne_66 ?_
    refine zg_X8_43 C hP dX8_rideOne_67 ?_
    refine z_iload_n C hl 1 rfl dX8_rideOne_70 ?_
    refine z_iald C hP ia_112 ⟨by omega, by omega⟩ dX8_rideOne_71 ?_
    refine z_vSi C hP (As := [.int (iI (σ 100 5)), .int (iI (σ 100 26)), .int (iI (σ 112 k))]) lk_X8_183 (c_X8_winded hI σ (σ 100 5) (σ 100 26) (σ 112 k) hse.1 (by try rw [show σ 103 = σ 103 from rfl]; exact hf.2.2) ⟨by omega, by omega⟩ hpk.2.1) ob_100 rfl rfl rfl hl.1 rfl (Nat.le_of_ble_eq_true rfl) ⟨Nat.le_of_ble_eq_true rfl, Nat.le_of_ble_eq_true rfl⟩ ⟨Nat.zero_le _, Nat.zero_le _⟩ dX8_rideOne_72 ?_
    try rw [show σ 103 = σ 103 from rfl]
    have w7 : -2 ≤ (mWind (σ 103 (σ 100 5)) (σ 100 26) (σ 112 k)) ∧ (mWind (σ 103 (σ 100 5)) (σ 100 26) (σ 112 k)) ≤ 9 := mWind_b hf.2.2 (by omega) hpk.2.1
    refine zp_X8_165 C hP hS dX8_rideOne_75 (fun H locs hP hS => ?_)
    obtain ⟨t3, et3⟩ : ∃ z : zS, z = zU σ 100 26 (mWind (σ 103 (σ 100 5)) (σ 100 26) (σ 112 k)) := ⟨_, rfl⟩
    rw [← et3] at hP
    refine z_aload_n C hl 0 rfl dX8_rideOne_78 ?_
    refine z_aload_n C hl 0 rfl dX8_rideOne_79 ?_
    refine z_aload_n C hl 0 rfl dX8_rideOne_80 ?_
    refine zg_X8_68 C hP dX8_rideOne_81 ?_
    rw [show t3 100 6 = σ 100 6 from by rw [et3, zU_place (by decide)]]
    refine z_aload_n C hl 0 rfl dX8_rideOne_84 ?_
    refine zg_X8_168 C hP dX8_rideOne_85 ?_
    rw [show t3 100 27 = σ 100 27 from by rw [et3, zU_place (by decide)]]
    refine z_aload_n C hl 0 rfl dX8_rideOne_88 ?_
    refine zg_X8_46 C hP dX8_rideOne_89 ?_
    refine z_iload_n C hl 1 rfl dX8_rideOne_92 ?_
    refine z_iald C hP ia_113 ⟨by omega, by omega⟩ dX8_rideOne_93 ?_
    rw [show t3 113 k = σ 113 k from by rw [et3, zU_cell (by decide)]]
    refine z_vSi C hP (As := [.int (iI (σ 100 6)), .int (iI (σ 100 27)), .int (iI (σ 113 k))]) lk_X8_183 (c_X8_winded hI t3 (σ 100 6) (σ 100 27) (σ 113 k) hse.2 (by try rw [show t3 103 = σ 103 from (by rw [et3, zU_cell (by omega)])]; exact hb.2.2) ⟨by omega, by omega⟩ hpk.2.2.1) ob_100 rfl rfl rfl hl.1 rfl (Nat.le_of_ble_eq_true rfl) ⟨Nat.le_of_ble_eq_true rfl, Nat.le_of_ble_eq_true rfl⟩ ⟨Nat.zero_le _, Nat.zero_le _⟩ dX8_rideOne_94 ?_
    try rw [show t3 103 = σ 103 from (by rw [et3, zU_cell (by omega)])]
    have w8 : -2 ≤ (mWind (σ 103 (σ 100 6)) (σ 100 27) (σ 113 k)) ∧ (mWind (σ 103 (σ 100 6)) (σ 100 27) (σ 113 k)) ≤ 9 := mWind_b hb.2.2 (by omega) hpk.2.2.1
    refine zp_X8_168 C hP hS dX8_rideOne_97 (fun H locs hP hS => ?_)
    obtain ⟨t4, et4⟩ : ∃ z : zS, z = zU t3 100 27 (mWind (σ 103 (σ 100 6)) (σ 100 27) (σ 113 k)) := ⟨_, rfl⟩
    rw [← et4] at hP
    refine z_aload_n C hl 0 rfl dX8_rideOne_100 ?_
    refine z_aload_n C hl 0 rfl dX8_rideOne_101 ?_
    refine zg_X8_171 C hP dX8_rideOne_102 ?_
    rw [show t4 100 28 = σ 100 28 from by rw [et4, zU_place (by decide), et3, zU_place (by decide)]]
    refine z_aload_n C hl 0 rfl dX8_rideOne_105 ?_
    refine zg_X8_22 C hP dX8_rideOne_106 ?_
    refine z_iload_n C hl 1 rfl dX8_rideOne_109 ?_
    refine z_iald C hP ia_105 ⟨by omega, by omega⟩ dX8_rideOne_110 ?_
    rw [show t4 105 k = σ 105 k from by rw [et4, zU_cell (by decide), et3, zU_cell (by decide)]]
    refine z_sSi C hP (As := [.int (iI (σ 100 28)), .int (iI (σ 105 k))]) lk_X8_186 (c_X8_heated hI t4 (σ 100 28) (σ 105 k) (by omega) (by omega)) rfl hl.1 rfl (Nat.le_of_ble_eq_true rfl) ⟨Nat.le_of_ble_eq_true rfl, Nat.le_of_ble_eq_true rfl⟩ ⟨Nat.zero_le _, Nat.zero_le _⟩ dX8_rideOne_111 ?_
    have w9 : 0 ≤ (mHeat (σ 100 28) (mSort (σ 105 k))) ∧ (mHeat (σ 100 28) (mSort (σ 105 k))) ≤ 25 := mHeat_b (by omega)
    refine zp_X8_171 C hP hS dX8_rideOne_114 (fun H locs hP hS => ?_)
    obtain ⟨t5, et5⟩ : ∃ z : zS, z = zU t4 100 28 (mHeat (σ 100 28) (mSort (σ 105 k))) := ⟨_, rfl⟩
    rw [← et5] at hP
    refine z_aload_n C hl 0 rfl dX8_rideOne_117 ?_
    refine zg_X8_165 C hP dX8_rideOne_118 ?_
    rw [show t5 100 26 = mWind (σ 103 (σ 100 5)) (σ 100 26) (σ 112 k) from by rw [et5, zU_place (by decide), et4, zU_place (by decide), et3, zU_same]]
    refine z_if_ge C 128 dX8_rideOne_121 (by decide) ⟨by omega, by omega⟩ (fun c_121 => ?_) (fun c_121 => ?_)
    · refine z_aload_n C hl 0 rfl dX8_rideOne_128 ?_
      refine zg_X8_168 C hP dX8_rideOne_129 ?_
      rw [show t5 100 27 = mWind (σ 103 (σ 100 6)) (σ 100 27) (σ 113 k) from by rw [et5, zU_place (by decide), et4, zU_same]]
      refine z_if_ge C 139 dX8_rideOne_132 (by decide) ⟨by omega, by omega⟩ (fun c_132 => ?_) (fun c_132 => ?_)
      · refine z_aload_n C hl 0 rfl dX8_rideOne_139 ?_
        refine zg_X8_171 C hP dX8_rideOne_140 ?_
        rw [show t5 100 28 = mHeat (σ 100 28) (mSort (σ 105 k)) from by rw [et5, zU_same]]
        refine z_aload_n C hl 0 rfl dX8_rideOne_143 ?_
        refine zg_X8_72 C hP dX8_rideOne_144 ?_
        rw [show t5 100 7 = σ 100 7 from by rw [et5, zU_place (by decide), et4, zU_place (by decide), et3, zU_place (by decide)]]
        refine z_icmp_le C 154 dX8_rideOne_147 (by decide) ⟨by omega, by omega⟩ ⟨by omega, by omega⟩ (fun c_147 => ?_) (fun c_147 => ?_)
        · refine z_bipush C (by decide +kernel) dX8_rideOne_154 ?_
          refine z_istore C [1, 2, 3, 4, 0] [(0, .ref (a 100)), (1, .int (iI k)), (2, .int (iI x1)), (3, .int (iI x2)), (4, .int (iI (-6)))] hl (by decide) rfl dX8_rideOne_156 (fun ls hl => ?_)
          refine z_aload_n C hl 0 rfl dX8_rideOne_158 ?_
          refine z_iload C hl 4 rfl dX8_rideOne_159 ?_
          refine z_ifT_le C 168 dX8_rideOne_161 (by decide) ⟨by decide, by decide⟩ (by decide) ?_
          refine z_bipush C (by decide +kernel) dX8_rideOne_168 ?_
          refine zp_X8_156 C hP hS dX8_rideOne_170 (fun H locs hP hS => ?_)
          obtain ⟨t6, et6⟩ : ∃ z : zS, z = zU t5 100 23 (-6) := ⟨_, rfl⟩
          rw [← et6] at hP
          refine z_aload_n C hl 0 rfl dX8_rideOne_173 ?_
          refine z_iload C hl 4 rfl dX8_rideOne_174 ?_
          refine zp_X8_159 C hP hS dX8_rideOne_176 (fun H locs hP hS => ?_)
          obtain ⟨t7, et7⟩ : ∃ z : zS, z = zU t6 100 24 (-6) := ⟨_, rfl⟩
          rw [← et7] at hP
          refine z_aload_n C hl 0 rfl dX8_rideOne_179 ?_
          refine z_dup C rfl dX8_rideOne_180 ?_
          refine zg_X8_174 C hP dX8_rideOne_181 ?_
          rw [show t7 100 29 = σ 100 29 from by rw [et7, zU_place (by decide), et6, zU_place (by decide), et5, zU_place (by decide), et4, zU_place (by decide), et3, zU_place (by decide)]]
          refine z_iload_n C hl 2 rfl dX8_rideOne_184 ?_
          refine z_iadd C dX8_rideOne_185 ?_
          refine zp_X8_174 C hP hS dX8_rideOne_186 (fun H locs hP hS => ?_)
          obtain ⟨t8, et8⟩ : ∃ z : zS, z = zU t7 100 29 ((σ 100 29) + x1) := ⟨_, rfl⟩
          rw [← et8] at hP
          refine z_aload_n C hl 0 rfl dX8_rideOne_189 ?_
          refine z_dup C rfl dX8_rideOne_190 ?_
          refine zg_X8_177 C hP dX8_rideOne_191 ?_
          rw [show t8 100 30 = σ 100 30 from by rw [et8, zU_place (by decide), et7, zU_place (by decide), et6, zU_place (by decide), et5, zU_place (by decide), et4, zU_place (by decide), et3, zU_place (by decide)]]
          refine z_iload_n C hl 3 rfl dX8_rideOne_194 ?_
          refine z_iadd C dX8_rideOne_195 ?_
          refine zp_X8_177 C hP hS dX8_rideOne_196 (fun H locs hP hS => ?_)
          obtain ⟨t9, et9⟩ : ∃ z : zS, z = zU t8 100 30 ((σ 100 30) + x2) := ⟨_, rfl⟩
          rw [← et9] at hP
          refine z_aload_n C hl 0 rfl dX8_rideOne_199 ?_
          refine z_dup C rfl dX8_rideOne_200 ?_
          refine zg_X8_162 C hP dX8_rideOne_201 ?_
          rw [show t9 100 25 = σ 100 25 from by rw [et9, zU_place (by decide), et8, zU_place (by decide), et7, zU_place (by decide), et6, zU_place (by decide), et5, zU_place (by decide), et4, zU_place (by decide), et3, zU_place (by decide)]]
          refine z_aload_n C hl 0 rfl dX8_rideOne_204 ?_
          refine zg_X8_22 C hP dX8_rideOne_205 ?_
          refine z_iload_n C hl 1 rfl dX8_rideOne_208 ?_
          refine z_iald C hP ia_105 ⟨by omega, by omega⟩ dX8_rideOne_209 ?_
          rw [show t9 105 k = σ 105 k from by rw [et9, zU_cell (by decide), et8, zU_cell (by decide), et7, zU_cell (by decide), et6, zU_cell (by decide), et5, zU_cell (by decide), et4, zU_cell (by decide), et3, zU_cell (by decide)]]
          refine z_sSi C hP (As := [.int (iI (σ 105 k))]) lk_X8_190 (c_X8_hard hI t9 (σ 105 k) (by omega)) rfl hl.1 rfl (Nat.le_of_ble_eq_true rfl) ⟨Nat.le_of_ble_eq_true rfl, Nat.le_of_ble_eq_true rfl⟩ ⟨Nat.zero_le _, Nat.zero_le _⟩ dX8_rideOne_210 ?_
          have hhb := mHard_b (mSort (σ 105 k))
          refine z_iload_n C hl 2 rfl dX8_rideOne_213 ?_
          refine z_iload_n C hl 3 rfl dX8_rideOne_214 ?_
          refine z_iadd C dX8_rideOne_215 ?_
          refine z_sSi C hP (As := [.int (iI (mHard (mSort (σ 105 k)))), .int (iI (x1 + x2))]) lk_X8_193 (c_X8_seconds hI t9 (mHard (mSort (σ 105 k))) (x1 + x2) (by omega) (by omega)) rfl hl.1 rfl (Nat.le_of_ble_eq_true rfl) ⟨Nat.le_of_ble_eq_true rfl, Nat.le_of_ble_eq_true rfl⟩ ⟨Nat.zero_le _, Nat.zero_le _⟩ dX8_rideOne_216 ?_
          have sb1 : 1 ≤ (mSec (mHard (mSort (σ 105 k))) (x1 + x2)) ∧ (mSec (mHard (mSort (σ 105 k))) (x1 + x2)) ≤ 241 := mSec_b (by omega)
          refine z_iadd C dX8_rideOne_219 ?_
          refine zp_X8_162 C hP hS dX8_rideOne_220 (fun H locs hP hS => ?_)
          obtain ⟨t10, et10⟩ : ∃ z : zS, z = zU t9 100 25 ((σ 100 25) + (mSec (mHard (mSort (σ 105 k))) (x1 + x2))) := ⟨_, rfl⟩
          rw [← et10] at hP
          exact z_retQv C hP hS hr hlocks (by have hR := c_7; subst_vars; refine ⟨?_, by simp [zU, mRestM, hR], by simp [zU, mRestM, hR], by simp [zU, mRestM, hR], ?_, by simp [zU, mRestM], by simp [zU, mRestM, jTF], by simp [zU, mRestM, jTB], by simp [zU, mRestM, hR, jT, jTF, jTB]⟩; ((repeat (refine jSame_z ?_ (by decide))); first | exact jSame_r σ | exact fun _ _ _ => rfl); (simp [zU, mRestM]; unfold mWhy; (repeat' split) <;> omega)) dX8_rideOne_223
        · refine z_iconst C dX8_rideOne_150 ?_
          refine z_goto C 156 dX8_rideOne_151 (by decide) ?_
          refine z_istore C [1, 2, 3, 4, 0] [(0, .ref (a 100)), (1, .int (iI k)), (2, .int (iI x1)), (3, .int (iI x2)), (4, .int (iI 3))] hl (by decide) rfl dX8_rideOne_156 (fun ls hl => ?_)
          refine z_aload_n C hl 0 rfl dX8_rideOne_158 ?_
          refine z_iload C hl 4 rfl dX8_rideOne_159 ?_
          refine z_ifF_le C 168 dX8_rideOne_161 (by decide) ⟨by decide, by decide⟩ (by decide) ?_
          refine z_iload_n C hl 1 rfl dX8_rideOne_164 ?_
          refine z_goto C 170 dX8_rideOne_165 (by decide) ?_
          refine zp_X8_156 C hP hS dX8_rideOne_170 (fun H locs hP hS => ?_)
          obtain ⟨t11, et11⟩ : ∃ z : zS, z = zU t5 100 23 k := ⟨_, rfl⟩
          rw [← et11] at hP
          refine z_aload_n C hl 0 rfl dX8_rideOne_173 ?_
          refine z_iload C hl 4 rfl dX8_rideOne_174 ?_
          refine zp_X8_159 C hP hS dX8_rideOne_176 (fun H locs hP hS => ?_)
          obtain ⟨t12, et12⟩ : ∃ z : zS, z = zU t11 100 24 3 := ⟨_, rfl⟩
          rw [← et12] at hP
          refine z_aload_n C hl 0 rfl dX8_rideOne_179 ?_
          refine z_dup C rfl dX8_rideOne_180 ?_
          refine zg_X8_174 C hP dX8_rideOne_181 ?_
          rw [show t12 100 29 = σ 100 29 from by rw [et12, zU_place (by decide), et11, zU_place (by decide), et5, zU_place (by decide), et4, zU_place (by decide), et3, zU_place (by decide)]]
          refine z_iload_n C hl 2 rfl dX8_rideOne_184 ?_
          refine z_iadd C dX8_rideOne_185 ?_
          refine zp_X8_174 C hP hS dX8_rideOne_186 (fun H locs hP hS => ?_)
          obtain ⟨t13, et13⟩ : ∃ z : zS, z = zU t12 100 29 ((σ 100 29) + x1) := ⟨_, rfl⟩
          rw [← et13] at hP
          refine z_aload_n C hl 0 rfl dX8_rideOne_189 ?_
          refine z_dup C rfl dX8_rideOne_190 ?_
          refine zg_X8_177 C hP dX8_rideOne_191 ?_
          rw [show t13 100 30 = σ 100 30 from by rw [et13, zU_place (by decide), et12, zU_place (by decide), et11, zU_place (by decide), et5, zU_place (by decide), et4, zU_place (by decide), et3, zU_place (by decide)]]
          refine z_iload_n C hl 3 rfl dX8_rideOne_194 ?_
          refine z_iadd C dX8_rideOne_195 ?_
          refine zp_X8_177 C hP hS dX8_rideOne_196 (fun H locs hP hS => ?_)
          obtain ⟨t14, et14⟩ : ∃ z : zS, z = zU t13 100 30 ((σ 100 30) + x2) := ⟨_, rfl⟩
          rw [← et14] at hP
          refine z_aload_n C hl 0 rfl dX8_rideOne_199 ?_
          refine z_dup C rfl dX8_rideOne_200 ?_
          refine zg_X8_162 C hP dX8_rideOne_201 ?_
          rw [show t14 100 25 = σ 100 25 from by rw [et14, zU_place (by decide), et13, zU_place (by decide), et12, zU_place (by decide), et11, zU_place (by decide), et5, zU_place (by decide), et4, zU_place (by decide), et3, zU_place (by decide)]]
          refine z_aload_n C hl 0 rfl dX8_rideOne_204 ?_
          refine zg_X8_22 C hP dX8_rideOne_205 ?_
          refine z_iload_n C hl 1 rfl dX8_rideOne_208 ?_
          refine z_iald C hP ia_105 ⟨by omega, by omega⟩ dX8_rideOne_209 ?_
          rw [show t14 105 k = σ 105 k from by rw [et14, zU_cell (by decide), et13, zU_cell (by decide), et12, zU_cell (by decide), et11, zU_cell (by decide), et5, zU_cell (by decide), et4, zU_cell (by decide), et3, zU_cell (by decide)]]
          refine z_sSi C hP (As := [.int (iI (σ 105 k))]) lk_X8_190 (c_X8_hard hI t14 (σ 105 k) (by omega)) rfl hl.1 rfl (Nat.le_of_ble_eq_true rfl) ⟨Nat.le_of_ble_eq_true rfl, Nat.le_of_ble_eq_true rfl⟩ ⟨Nat.zero_le _, Nat.zero_le _⟩ dX8_rideOne_210 ?_
          have hhb := mHard_b (mSort (σ 105 k))
          refine z_iload_n C hl 2 rfl dX8_rideOne_213 ?_
          refine z_iload_n C hl 3 rfl dX8_rideOne_214 ?_
          refine z_iadd C dX8_rideOne_215 ?_
          refine z_sSi C hP (As := [.int (iI (mHard (mSort (σ 105 k)))), .int (iI (x1 + x2))]) lk_X8_193 (c_X8_seconds hI t14 (mHard (mSort (σ 105 k))) (x1 + x2) (by omega) (by omega)) rfl hl.1 rfl (Nat.le_of_ble_eq_true rfl) ⟨Nat.le_of_ble_eq_true rfl, Nat.le_of_ble_eq_true rfl⟩ ⟨Nat.zero_le _, Nat.zero_le _⟩ dX8_rideOne_216 ?_
          have sb1 : 1 ≤ (mSec (mHard (mSort (σ 105 k))) (x1 + x2)) ∧ (mSec (mHard (mSort (σ 105 k))) (x1 + x2)) ≤ 241 := mSec_b (by omega)
          refine z_iadd C dX8_rideOne_219 ?_
          refine zp_X8_162 C hP hS dX8_rideOne_220 (fun H locs hP hS => ?_)
          obtain ⟨t15, et15⟩ : ∃ z : zS, z = zU t14 100 25 ((σ 100 25) + (mSec (mHard (mSort (σ 105 k))) (x1 + x2))) := ⟨_, rfl⟩
          rw [← et15] at hP
          exact z_retQv C hP hS hr hlocks (by have hR := c_7; subst_vars; refine ⟨?_, by simp [zU, mRestM, hR], by simp [zU, mRestM, hR], by simp [zU, mRestM, hR], ?_, by simp [zU, mRestM], by simp [zU, mRestM, jTF], by simp [zU, mRestM, jTB], by simp [zU, mRestM, hR, jT, jTF, jTB]⟩; ((repeat (refine jSame_z ?_ (by decide))); first | exact jSame_r σ | exact fun _ _ _ => rfl); (simp [zU, mRestM]; unfold mWhy; (repeat' split) <;> omega)) dX8_rideOne_223
      · refine z_iconst C dX8_rideOne_135 ?_
        refine z_goto C 156 dX8_rideOne_136 (by decide) ?_
        refine z_istore C [1, 2, 3, 4, 0] [(0, .ref (a 100)), (1, .int (iI k)), (2, .int (iI x1)), (3, .int (iI x2)), (4, .int (iI 2))] hl (by decide) rfl dX8_rideOne_156 (fun ls hl => ?_)
        refine z_aload_n C hl 0 rfl dX8_rideOne_158 ?_
        refine z_iload C hl 4 rfl dX8_rideOne_159 ?_
        refine z_ifF_le C 168 dX8_rideOne_161 (by decide) ⟨by decide, by decide⟩ (by decide) ?_
        refine z_iload_n C hl 1 rfl dX8_rideOne_164 ?_
        refine z_goto C 170 dX8_rideOne_165 (by decide) ?_
        refine zp_X8_156 C hP hS dX8_rideOne_170 (fun H locs hP hS => ?_)
        obtain ⟨t16, et16⟩ : ∃ z : zS, z = zU t5 100 23 k := ⟨_, rfl⟩
        rw [← et16] at hP
        refine z_aload_n C hl 0 rfl dX8_rideOne_173 ?_
        refine z_iload C hl 4 rfl dX8_rideOne_174 ?_
        refine zp_X8_159 C hP hS dX8_rideOne_176 (fun H locs hP hS => ?_)
        obtain ⟨t17, et17⟩ : ∃ z : zS, z = zU t16 100 24 2 := ⟨_, rfl⟩
        rw [← et17] at hP
        refine z_aload_n C hl 0 rfl dX8_rideOne_179 ?_
        refine z_dup C rfl dX8_rideOne_180 ?_
        refine zg_X8_174 C hP dX8_rideOne_181 ?_
        rw [show t17 100 29 = σ 100 29 from by rw [et17, zU_place (by decide), et16, zU_place (by decide), et5, zU_place (by decide), et4, zU_place (by decide), et3, zU_place (by decide)]]
        refine z_iload_n C hl 2 rfl dX8_rideOne_184 ?_
        refine z_iadd C dX8_rideOne_185 ?_
        refine zp_X8_174 C hP hS dX8_rideOne_186 (fun H locs hP hS => ?_)
        obtain ⟨t18, et18⟩ : ∃ z : zS, z = zU t17 100 29 ((σ 100 29) + x1) := ⟨_, rfl⟩
        rw [← et18] at hP
        refine z_aload_n C hl 0 rfl dX8_rideOne_189 ?_
        refine z_dup C rfl dX8_rideOne_190 ?_
        refine zg_X8_177 C hP dX8_rideOne_191 ?_
        rw [show t18 100 30 = σ 100 30 from by rw [et18, zU_place (by decide), et17, zU_place (by decide), et16, zU_place (by decide), et5, zU_place (by decide), et4, zU_place (by decide), et3, zU_place (by decide)]]
        refine z_iload_n C hl 3 rfl dX8_rideOne_194 ?_
        refine z_iadd C dX8_rideOne_195 ?_
        refine zp_X8_177 C hP hS dX8_rideOne_196 (fun H locs hP hS => ?_)
        obtain ⟨t19, et19⟩ : ∃ z : zS, z = zU t18 100 30 ((σ 100 30) + x2) := ⟨_, rfl⟩
        rw [← et19] at hP
        refine z_aload_n C hl 0 rfl dX8_rideOne_199 ?_
        refine z_dup C rfl dX8_rideOne_200 ?_
        refine zg_X8_162 C hP dX8_rideOne_201 ?_
        rw [show t19 100 25 = σ 100 25 from by rw [et19, zU_place (by decide), et18, zU_place (by decide), et17, zU_place (by decide), et16, zU_place (by decide), et5, zU_place (by decide), et4, zU_place (by decide), et3, zU_place (by decide)]]
        refine z_aload_n C hl 0 rfl dX8_rideOne_204 ?_
        refine zg_X8_22 C hP dX8_rideOne_205 ?_
        refine z_iload_n C hl 1 rfl dX8_rideOne_208 ?_
        refine z_iald C hP ia_105 ⟨by omega, by omega⟩ dX8_rideOne_209 ?_
        rw [show t19 105 k = σ 105 k from by rw [et19, zU_cell (by decide), et18, zU_cell (by decide), et17, zU_cell (by decide), et16, zU_cell (by decide), et5, zU_cell (by decide), et4, zU_cell (by decide), et3, zU_cell (by decide)]]
        refine z_sSi C hP (As := [.int (iI (σ 105 k))]) lk_X8_190 (c_X8_hard hI t19 (σ 105 k) (by omega)) rfl hl.1 rfl (Nat.le_of_ble_eq_true rfl) ⟨Nat.le_of_ble_eq_true rfl, Nat.le_of_ble_eq_true rfl⟩ ⟨Nat.zero_le _, Nat.zero_le _⟩ dX8_rideOne_210 ?_
        have hhb := mHard_b (mSort (σ 105 k))
        refine z_iload_n C hl 2 rfl dX8_rideOne_213 ?_
        refine z_iload_n C hl 3 rfl dX8_rideOne_214 ?_
        refine z_iadd C dX8_rideOne_215 ?_
        refine z_sSi C hP (As := [.int (iI (mHard (mSort (σ 105 k)))), .int (iI (x1 + x2))]) lk_X8_193 (c_X8_seconds hI t19 (mHard (mSort (σ 105 k))) (x1 + x2) (by omega) (by omega)) rfl hl.1 rfl (Nat.le_of_ble_eq_true rfl) ⟨Nat.le_of_ble_eq_true rfl, Nat.le_of_ble_eq_true rfl⟩ ⟨Nat.zero_le _, Nat.zero_le _⟩ dX8_rideOne_216 ?_
        have sb1 : 1 ≤ (mSec (mHard (mSort (σ 105 k))) (x1 + x2)) ∧ (mSec (mHard (mSort (σ 105 k))) (x1 + x2)) ≤ 241 := mSec_b (by omega)
        refine z_iadd C dX8_rideOne_219 ?_
        refine zp_X8_162 C hP hS dX8_rideOne_220 (fun H locs hP hS => ?_)
        obtain ⟨t20, et20⟩ : ∃ z : zS, z = zU t19 100 25 ((σ 100 25) + (mSec (mHard (mSort (σ 105 k))) (x1 + x2))) := ⟨_, rfl⟩
        rw [← et20] at hP
        exact z_retQv C hP hS hr hlocks (by have hR := c_7; subst_vars; refine ⟨?_, by simp [zU, mRestM, hR], by simp [zU, mRestM, hR], by simp [zU, mRestM, hR], ?_, by simp [zU, mRestM], by simp [zU, mRestM, jTF], by simp [zU, mRestM, jTB], by simp [zU, mRestM, hR, jT, jTF, jTB]⟩; ((repeat (refine jSame_z ?_ (by decide))); first | exact jSame_r σ | exact fun _ _ _ => rfl); (simp [zU, mRestM]; unfold mWhy; (repeat' split) <;> omega)) dX8_rideOne_223
    · refine z_iconst C dX8_rideOne_124 ?_
      refine z_goto C 156 dX8_rideOne_125 (by decide) ?_
      refine z_istore C [1, 2, 3, 4, 0] [(0, .ref (a 100)), (1, .int (iI k)), (2, .int (iI x1)), (3, .int (iI x2)), (4, .int (iI 1))] hl (by decide) rfl dX8_rideOne_156 (fun ls hl => ?_)
      refine z_aload_n C hl 0 rfl dX8_rideOne_158 ?_
      refine z_iload C hl 4 rfl dX8_rideOne_159 ?_
      refine z_ifF_le C 168 dX8_rideOne_161 (by decide) ⟨by decide, by decide⟩ (by decide) ?_
      refine z_iload_n C hl 1 rfl dX8_rideOne_164 ?_
      refine z_goto C 170 dX8_rideOne_165 (by decide) ?_
      refine zp_X8_156 C hP hS dX8_rideOne_170 (fun H locs hP hS => ?_)
      obtain ⟨t21, et21⟩ : ∃ z : zS, z = zU t5 100 23 k := ⟨_, rfl⟩
      rw [← et21] at hP
      refine z_aload_n C hl 0 rfl dX8_rideOne_173 ?_
      refine z_iload C hl 4 rfl dX8_rideOne_174 ?_
      refine zp_X8_159 C hP hS dX8_rideOne_176 (fun H locs hP hS => ?_)
      obtain ⟨t22, et22⟩ : ∃ z : zS, z = zU t21 100 24 1 := ⟨_, rfl⟩
      rw [← et22] at hP
      refine z_aload_n C hl 0 rfl dX8_rideOne_179 ?_
      refine z_dup C rfl dX8_rideOne_180 ?_
      refine zg_X8_174 C hP dX8_rideOne_181 ?_
      rw [show t22 100 29 = σ 100 29 from by rw [et22, zU_place (by decide), et21, zU_place (by decide), et5, zU_place (by decide), et4, zU_place (by decide), et3, zU_place (by decide)]]
      refine z_iload_n C hl 2 rfl dX8_rideOne_184 ?_
      refine z_iadd C dX8_rideOne_185 ?_
      refine zp_X8_174 C hP hS dX8_rideOne_186 (fun H locs hP hS => ?_)
      obtain ⟨t23, et23⟩ : ∃ z : zS, z = zU t22 100 29 ((σ 100 29) + x1) := ⟨_, rfl⟩
      rw [← et23] at hP
      refine z_aload_n C hl 0 rfl dX8_rideOne_189 ?_
      refine z_dup C rfl dX8_rideOne_190 ?_
      refine zg_X8_177 C hP dX8_rideOne_191 ?_
      rw [show t23 100 30 = σ 100 30 from by rw [et23, zU_place (by decide), et22, zU_place (by decide), et21, zU_place (by decide), et5, zU_place (by decide), et4, zU_place (by decide), et3, zU_place (by decide)]]
      refine z_iload_n C hl 3 rfl dX8_rideOne_194 ?_
      refine z_iadd C dX8_rideOne_195 ?_
      refine zp_X8_177 C hP hS dX8_rideOne_196 (fun H locs hP hS => ?_)
      obtain ⟨t24, et24⟩ : ∃ z : zS, z = zU t23 100 30 ((σ 100 30) + x2) := ⟨_, rfl⟩
      rw [← et24] at hP
      refine z_aload_n C hl 0 rfl dX8_rideOne_199 ?_
      refine z_dup C rfl dX8_rideOne_200 ?_
      refine zg_X8_162 C hP dX8_rideOne_201 ?_
      rw [show t24 100 25 = σ 100 25 from by rw [et24, zU_place (by decide), et23, zU_place (by decide), et22, zU_place (by decide), et21, zU_place (by decide), et5, zU_place (by decide), et4, zU_place (by decide), et3, zU_place (by decide)]]
      refine z_aload_n C hl 0 rfl dX8_rideOne_204 ?_
      refine zg_X8_22 C hP dX8_rideOne_205 ?_
      refine z_iload_n C hl 1 rfl dX8_rideOne_208 ?_
      refine z_iald C hP ia_105 ⟨by omega, by omega⟩ dX8_rideOne_209 ?_
      rw [show t24 105 k = σ 105 k from by rw [et24, zU_cell (by decide), et23, zU_cell (by decide), et22, zU_cell (by decide), et21, zU_cell (by decide), et5, zU_cell (by decide), et4, zU_cell (by decide), et3, zU_cell (by decide)]]
      refine z_sSi C hP (As := [.int (iI (σ 105 k))]) lk_X8_190 (c_X8_hard hI t24 (σ 105 k) (by omega)) rfl hl.1 rfl (Nat.le_of_ble_eq_true rfl) ⟨Nat.le_of_ble_eq_true rfl, Nat.le_of_ble_eq_true rfl⟩ ⟨Nat.zero_le _, Nat.zero_le _⟩ dX8_rideOne_210 ?_
      have hhb := mHard_b (mSort (σ 105 k))
      refine z_iload_n C hl 2 rfl dX8_rideOne_213 ?_
      refine z_iload_n C hl 3 rfl dX8_rideOne_214 ?_
      refine z_iadd C dX8_rideOne_215 ?_
      refine z_sSi C hP (As := [.int (iI (mHard (mSort (σ 105 k)))), .int (iI (x1 + x2))]) lk_X8_193 (c_X8_seconds hI t24 (mHard (mSort (σ 105 k))) (x1 + x2) (by omega) (by omega)) rfl hl.1 rfl (Nat.le_of_ble_eq_true rfl) ⟨Nat.le_of_ble_eq_true rfl, Nat.le_of_ble_eq_true rfl⟩ ⟨Nat.zero_le _, Nat.zero_le _⟩ dX8_rideOne_216 ?_
      have sb1 : 1 ≤ (mSec (mHard (mSort (σ 105 k))) (x1 + x2)) ∧ (mSec (mHard (mSort (σ 105 k))) (x1 + x2)) ≤ 241 := mSec_b (by omega)
      refine z_iadd C dX8_rideOne_219 ?_
      refine zp_X8_162 C hP hS dX8_rideOne_220 (fun H locs hP hS => ?_)
      obtain ⟨t25, et25⟩ : ∃ z : zS, z = zU t24 100 25 ((σ 100 25) + (mSec (mHard (mSort (σ 105 k))) (x1 + x2))) := ⟨_, rfl⟩
      rw [← et25] at hP
      exact z_retQv C hP hS hr hlocks (by have hR := c_7; subst_vars; refine ⟨?_, by simp [zU, mRestM, hR], by simp [zU, mRestM, hR], by simp [zU, mRestM, hR], ?_, by simp [zU, mRestM], by simp [zU, mRestM, jTF], by simp [zU, mRestM, jTB], by simp [zU, mRestM, hR, jT, jTF, jTB]⟩; ((repeat (refine jSame_z ?_ (by decide))); first | exact jSame_r σ | exact fun _ _ _ => rfl); (simp [zU, mRestM]; unfold mWhy; (repeat' split) <;> omega)) dX8_rideOne_223
  · refine z_aload_n C hl 0 rfl dX8_rideOne_10 ?_
    refine z_vQv hS C hP (As := []) lk_X8_180 (c_X8_rest hI σ  hse hpz ⟨by omega, by omega⟩) ob_100 rfl rfl rfl hl.1 rfl (Nat.le_of_ble_eq_true rfl) ⟨Nat.le_of_ble_eq_true rfl, Nat.le_of_ble_eq_true rfl⟩ ⟨Nat.zero_le _, Nat.zero_le _⟩ dX8_rideOne_11 (fun t27 H locs hp11 hP hS => ?_)
    obtain ⟨t27a, et27a⟩ : ∃ z : zS, z = zU σ 100 25 (σ 100 25 + σ 100 8) := ⟨_, rfl⟩
    obtain ⟨t27b, et27b⟩ : ∃ z : zS, z = zU t27a 100 26 (σ 103 (σ 100 5)) := ⟨_, rfl⟩
    obtain ⟨t27c, et27c⟩ : ∃ z : zS, z = zU t27b 100 27 (σ 103 (σ 100 6)) := ⟨_, rfl⟩
    have et27 : t27 = zU t27c 100 28 0 := hp11.trans (by rw [et27c, et27b, et27a]; rfl)
    refine z_aload_n C hl 0 rfl dX8_rideOne_14 ?_
    refine z_aload_n C hl 0 rfl dX8_rideOne_15 ?_
    refine zg_X8_113 C hP dX8_rideOne_16 ?_
    rw [show t27 100 5 = σ 100 5 from by rw [et27, zU_place (by decide), et27c, zU_place (by decide), et27b, zU_place (by decide), et27a, zU_place (by decide)]]
    refine z_aload_n C hl 0 rfl dX8_rideOne_19 ?_
    refine zg_X8_43 C hP dX8_rideOne_20 ?_
    refine z_iload_n C hl 1 rfl dX8_rideOne_23 ?_
    refine z_iald C hP ia_112 ⟨by omega, by omega⟩ dX8_rideOne_24 ?_
    rw [show t27 112 k = σ 112 k from by rw [et27, zU_cell (by decide), et27c, zU_cell (by decide), et27b, zU_cell (by decide), et27a, zU_cell (by decide)]]
    refine z_aload_n C hl 0 rfl dX8_rideOne_25 ?_
    refine zg_X8_49 C hP dX8_rideOne_26 ?_
    refine z_iload_n C hl 1 rfl dX8_rideOne_29 ?_
    refine z_iald C hP ia_114 ⟨by omega, by omega⟩ dX8_rideOne_30 ?_
    rw [show t27 114 k = σ 114 k from by rw [et27, zU_cell (by decide), et27c, zU_cell (by decide), et27b, zU_cell (by decide), et27a, zU_cell (by decide)]]
    refine z_vSi C hP (As := [.int (iI (σ 100 5)), .int (iI (σ 112 k)), .int (iI (σ 114 k))]) lk_X8_152 (c_X8_treadOf hI t27 (σ 100 5) (σ 112 k) (σ 114 k) hse.1 (by try rw [show t27 101 = σ 101 from (by rw [et27, zU_cell (by omega), et27c, zU_cell (by omega), et27b, zU_cell (by omega), et27a, zU_cell (by omega)])]; exact hf.1) (by try rw [show t27 102 = σ 102 from (by rw [et27, zU_cell (by omega), et27c, zU_cell (by omega), et27b, zU_cell (by omega), et27a, zU_cell (by omega)])]; exact hf.2.1) hpk.2.1 hpk.2.2.2) ob_100 rfl rfl rfl hl.1 rfl (Nat.le_of_ble_eq_true rfl) ⟨Nat.le_of_ble_eq_true rfl, Nat.le_of_ble_eq_true rfl⟩ ⟨Nat.zero_le _, Nat.zero_le _⟩ dX8_rideOne_31 ?_
    try rw [show t27 101 = σ 101 from (by rw [et27, zU_cell (by omega), et27c, zU_cell (by omega), et27b, zU_cell (by omega), et27a, zU_cell (by omega)])]
    try rw [show t27 102 = σ 102 from (by rw [et27, zU_cell (by omega), et27c, zU_cell (by omega), et27b, zU_cell (by omega), et27a, zU_cell (by omega)])]
    have tfb := mTread_b hf.1 hf.2.1 hpk.2.1 hpk.2.2.2
    refine z_topi (fun x28 hx28 => ?_)
    refine z_istore_n C [1, 2, 0] [(0, .ref (a 100)), (1, .int (iI k)), (2, .int (iI x28))] hl (by decide) rfl dX8_rideOne_34 (fun ls hl => ?_)
    refine z_aload_n C hl 0 rfl dX8_rideOne_35 ?_
    refine z_aload_n C hl 0 rfl dX8_rideOne_36 ?_
    refine zg_X8_68 C hP dX8_rideOne_37 ?_
    rw [show t27 100 6 = σ 100 6 from by rw [et27, zU_place (by decide), et27c, zU_place (by decide), et27b, zU_place (by decide), et27a, zU_place (by decide)]]
    refine z_aload_n C hl 0 rfl dX8_rideOne_40 ?_
    refine zg_X8_46 C hP dX8_rideOne_41 ?_
    refine z_iload_n C hl 1 rfl dX8_rideOne_44 ?_
    refine z_iald C hP ia_113 ⟨by omega, by omega⟩ dX8_rideOne_45 ?_
    rw [show t27 113 k = σ 113 k from by rw [et27, zU_cell (by decide), et27c, zU_cell (by decide), et27b, zU_cell (by decide), et27a, zU_cell (by decide)]]
    refine z_aload_n C hl 0 rfl dX8_rideOne_46 ?_
    refine zg_X8_49 C hP dX8_rideOne_47 ?_
    refine z_iload_n C hl 1 rfl dX8_rideOne_50 ?_
    refine z_iald C hP ia_114 ⟨by omega, by omega⟩ dX8_rideOne_51 ?_
    rw [show t27 114 k = σ 114 k from by rw [et27, zU_cell (by decide), et27c, zU_cell (by decide), et27b, zU_cell (by decide), et27a, zU_cell (by decide)]]
    refine z_vSi C hP (As := [.int (iI (σ 100 6)), .int (iI (σ 113 k)), .int (iI (σ 114 k))]) lk_X8_152 (c_X8_treadOf hI t27 (σ 100 6) (σ 113 k) (σ 114 k) hse.2 (by try rw [show t27 101 = σ 101 from (by rw [et27, zU_cell (by omega), et27c, zU_cell (by omega), et27b, zU_cell (by omega), et27a, zU_cell (by omega)])]; exact hb.1) (by try rw [show t27 102 = σ 102 from (by rw [et27, zU_cell (by omega), et27c, zU_cell (by omega), et27b, zU_cell (by omega), et27a, zU_cell (by omega)])]; exact hb.2.1) hpk.2.2.1 hpk.2.2.2) ob_100 rfl rfl rfl hl.1 rfl (Nat.le_of_ble_eq_true rfl) ⟨Nat.le_of_ble_eq_true rfl, Nat.le_of_ble_eq_true rfl⟩ ⟨Nat.zero_le _, Nat.zero_le _⟩ dX8_rideOne_52 ?_
    try rw [show t27 101 = σ 101 from (by rw [et27, zU_cell (by omega), et27c, zU_cell (by omega), et27b, zU_cell (by omega), et27a, zU_cell (by omega)])]
    try rw [show t27 102 = σ 102 from (by rw [et27, zU_cell (by omega), et27c, zU_cell (by omega), et27b, zU_cell (by omega), et27a, zU_cell (by omega)])]
    have tbb := mTread_b hb.1 hb.2.1 hpk.2.2.1 hpk.2.2.2
    refine z_topi (fun x29 hx29 => ?_)
    refine z_istore_n C [1, 2, 3, 0] [(0, .ref (a 100)), (1, .int (iI k)), (2, .int (iI x28)), (3, .int (iI x29))] hl (by decide) rfl dX8_rideOne_55 (fun ls hl => ?_)
    refine z_aload_n C hl 0 rfl dX8_rideOne_56 ?_
    refine z_aload_n C hl 0 rfl dX8_rideOne_57 ?_
    refine z_aload_n C hl 0 rfl dX8_rideOne_58 ?_
    refine zg_X8_113 C hP dX8_rideOne_59 ?_
    rw [show t27 100 5 = σ 100 5 from by rw [et27, zU_place (by decide), et27c, zU_place (by decide), et27b, zU_place (by decide), et27a, zU_place (by decide)]]
    refine z_aload_n C hl 0 rfl dX8_rideOne_62 ?_
    refine zg_X8_165 C hP dX8_rideOne_63 ?_
    rw [show t27 100 26 = σ 103 (σ 100 5) from by rw [et27, zU_place (by decide), et27c, zU_place (by decide), et27b, zU_same]]
    refine z_aload_n C hl 0 rfl dX8_rideOne_66 ?_
    refine zg_X8_43 C hP dX8_rideOne_67 ?_
    refine z_iload_n C hl 1 rfl dX8_rideOne_70 ?_
    refine z_iald C hP ia_112 ⟨by omega, by omega⟩ dX8_rideOne_71 ?_
    rw [show t27 112 k = σ 112 k from by rw [et27, zU_cell (by decide), et27c, zU_cell (by decide), et27b, zU_cell (by decide), et27a, zU_cell (by decide)]]
    refine z_vSi C hP (As := [.int (iI (σ 100 5)), .int (iI (σ 103 (σ 100 5))), .int (iI (σ 112 k))]) lk_X8_183 (c_X8_winded hI t27 (σ 100 5) (σ 103 (σ 100 5)) (σ 112 k) hse.1 (by try rw [show t27 103 = σ 103 from (by rw [et27, zU_cell (by omega), et27c, zU_cell (by omega), et27b, zU_cell (by omega), et27a, zU_cell (by omega)])]; exact hf.2.2) ⟨by omega, by omega⟩ hpk.2.1) ob_100 rfl rfl rfl hl.1 rfl (Nat.le_of_ble_eq_true rfl) ⟨Nat.le_of_ble_eq_true rfl, Nat.le_of_ble_eq_true rfl⟩ ⟨Nat.zero_le _, Nat.zero_le _⟩ dX8_rideOne_72 ?_
    try rw [show t27 103 = σ 103 from (by rw [et27, zU_cell (by omega), et27c, zU_cell (by omega), et27b, zU_cell (by omega), et27a, zU_cell (by omega)])]
    have w7 : -2 ≤ (mWind (σ 103 (σ 100 5)) (σ 103 (σ 100 5)) (σ 112 k)) ∧ (mWind (σ 103 (σ 100 5)) (σ 103 (σ 100 5)) (σ 112 k)) ≤ 9 := mWind_b hf.2.2 (by omega) hpk.2.1
    refine zp_X8_165 C hP hS dX8_rideOne_75 (fun H locs hP hS => ?_)
    obtain ⟨t30, et30⟩ : ∃ z : zS, z = zU t27 100 26 (mWind (σ 103 (σ 100 5)) (σ 103 (σ 100 5)) (σ 112 k)) := ⟨_, rfl⟩
    rw [← et30] at hP
    refine z_aload_n C hl 0 rfl dX8_rideOne_78 ?_
    refine z_aload_n C hl 0 rfl dX8_rideOne_79 ?_
    refine z_aload_n C hl 0 rfl dX8_rideOne_80 ?_
    refine zg_X8_68 C hP dX8_rideOne_81 ?_
    rw [show t30 100 6 = σ 100 6 from by rw [et30, zU_place (by decide), et27, zU_place (by decide), et27c, zU_place (by decide), et27b, zU_place (by decide), et27a, zU_place (by decide)]]
    refine z_aload_n C hl 0 rfl dX8_rideOne_84 ?_
    refine zg_X8_168 C hP dX8_rideOne_85 ?_
    rw [show t30 100 27 = σ 103 (σ 100 6) from by rw [et30, zU_place (by decide), et27, zU_place (by decide), et27c, zU_same]]
    refine z_aload_n C hl 0 rfl dX8_rideOne_88 ?_
    refine zg_X8_46 C hP dX8_rideOne_89 ?_
    refine z_iload_n C hl 1 rfl dX8_rideOne_92 ?_
    refine z_iald C hP ia_113 ⟨by omega, by omega⟩ dX8_rideOne_93 ?_
    rw [show t30 113 k = σ 113 k from by rw [et30, zU_cell (by decide), et27, zU_cell (by decide), et27c, zU_cell (by decide), et27b, zU_cell (by decide), et27a, zU_cell (by decide)]]
    refine z_vSi C hP (As := [.int (iI (σ 100 6)), .int (iI (σ 103 (σ 100 6))), .int (iI (σ 113 k))]) lk_X8_183 (c_X8_winded hI t30 (σ 100 6) (σ 103 (σ 100 6)) (σ 113 k) hse.2 (by try rw [show t30 103 = σ 103 from (by rw [et30, zU_cell (by omega), et27, zU_cell (by omega), et27c, zU_cell (by omega), et27b, zU_cell (by omega), et27a, zU_cell (by omega)])]; exact hb.2.2) ⟨by omega, by omega⟩ hpk.2.2.1) ob_100 rfl rfl rfl hl.1 rfl (Nat.le_of_ble_eq_true rfl) ⟨Nat.le_of_ble_eq_true rfl, Nat.le_of_ble_eq_true rfl⟩ ⟨Nat.zero_le _, Nat.zero_le _⟩ dX8_rideOne_94 ?_
    try rw [show t30 103 = σ 103 from (by rw [et30, zU_cell (by omega), et27, zU_cell (by omega), et27c, zU_cell (by omega), et27b, zU_cell (by omega), et27a, zU_cell (by omega)])]
    have w8 : -2 ≤ (mWind (σ 103 (σ 100 6)) (σ 103 (σ 100 6)) (σ 113 k)) ∧ (mWind (σ 103 (σ 100 6)) (σ 103 (σ 100 6)) (σ 113 k)) ≤ 9 := mWind_b hb.2.2 (by omega) hpk.2.2.1
    refine zp_X8_168 C hP hS dX8_rideOne_97 (fun H locs hP hS => ?_)
    obtain ⟨t31, et31⟩ : ∃ z : zS, z = zU t30 100 27 (mWind (σ 103 (σ 100 6)) (σ 103 (σ 100 6)) (σ 113 k)) := ⟨_, rfl⟩
    rw [← et31] at hP
    refine z_aload_n C hl 0 rfl dX8_rideOne_100 ?_
    refine z_aload_n C hl 0 rfl dX8_rideOne_101 ?_
    refine zg_X8_171 C hP dX8_rideOne_102 ?_
    rw [show t31 100 28 = 0 from by rw [et31, zU_place (by decide), et30, zU_place (by decide), et27, zU_same]]
    refine z_aload_n C hl 0 rfl dX8_rideOne_105 ?_
    refine zg_X8_22 C hP dX8_rideOne_106 ?_
    refine z_iload_n C hl 1 rfl dX8_rideOne_109 ?_
    refine z_iald C hP ia_105 ⟨by omega, by omega⟩ dX8_rideOne_110 ?_
    rw [show t31 105 k = σ 105 k from by rw [et31, zU_cell (by decide), et30, zU_cell (by decide), et27, zU_cell (by decide), et27c, zU_cell (by decide), et27b, zU_cell (by decide), et27a, zU_cell (by decide)]]
    refine z_sSi C hP (As := [.int (iI 0), .int (iI (σ 105 k))]) lk_X8_186 (c_X8_heated hI t31 0 (σ 105 k) (by omega) (by omega)) rfl hl.1 rfl (Nat.le_of_ble_eq_true rfl) ⟨Nat.le_of_ble_eq_true rfl, Nat.le_of_ble_eq_true rfl⟩ ⟨Nat.zero_le _, Nat.zero_le _⟩ dX8_rideOne_111 ?_
    have w9 : 0 ≤ (mHeat 0 (mSort (σ 105 k))) ∧ (mHeat 0 (mSort (σ 105 k))) ≤ 25 := mHeat_b (by omega)
    refine zp_X8_171 C hP hS dX8_rideOne_114 (fun H locs hP hS => ?_)
    obtain ⟨t32, et32⟩ : ∃ z : zS, z = zU t31 100 28 (mHeat 0 (mSort (σ 105 k))) := ⟨_, rfl⟩
    rw [← et32] at hP
    refine z_aload_n C hl 0 rfl dX8_rideOne_117 ?_
    refine zg_X8_165 C hP dX8_rideOne_118 ?_
    rw [show t32 100 26 = mWind (σ 103 (σ 100 5)) (σ 103 (σ 100 5)) (σ 112 k) from by rw [et32, zU_place (by decide), et31, zU_place (by decide), et30, zU_same]]
    refine z_if_ge C 128 dX8_rideOne_121 (by decide) ⟨by omega, by omega⟩ (fun c_121 => ?_) (fun c_121 => ?_)
    · refine z_aload_n C hl 0 rfl dX8_rideOne_128 ?_
      refine zg_X8_168 C hP dX8_rideOne_129 ?_
      rw [show t32 100 27 = mWind (σ 103 (σ 100 6)) (σ 103 (σ 100 6)) (σ 113 k) from by rw [et32, zU_place (by decide), et31, zU_same]]
      refine z_if_ge C 139 dX8_rideOne_132 (by decide) ⟨by omega, by omega⟩ (fun c_132 => ?_) (fun c_132 => ?_)
      · refine z_aload_n C hl 0 rfl dX8_rideOne_139 ?_
        refine zg_X8_171 C hP dX8_rideOne_140 ?_
        rw [show t32 100 28 = mHeat 0 (mSort (σ 105 k)) from by rw [et32, zU_same]]
        refine z_aload_n C hl 0 rfl dX8_rideOne_143 ?_
        refine zg_X8_72 C hP dX8_rideOne_144 ?_
        rw [show t32 100 7 = σ 100 7 from by rw [et32, zU_place (by decide), et31, zU_place (by decide), et30, zU_place (by decide), et27, zU_place (by decide), et27c, zU_place (by decide), et27b, zU_place (by decide), et27a, zU_place (by decide)]]
        refine z_icmp_le C 154 dX8_rideOne_147 (by decide) ⟨by omega, by omega⟩ ⟨by omega, by omega⟩ (fun c_147 => ?_) (fun c_147 => ?_)
        · refine z_bipush C (by decide +kernel) dX8_rideOne_154 ?_
          refine z_istore C [1, 2, 3, 4, 0] [(0, .ref (a 100)), (1, .int (iI k)), (2, .int (iI x28)), (3, .int (iI x29)), (4, .int (iI (-6)))] hl (by decide) rfl dX8_rideOne_156 (fun ls hl => ?_)
          refine z_aload_n C hl 0 rfl dX8_rideOne_158 ?_
          refine z_iload C hl 4 rfl dX8_rideOne_159 ?_
          refine z_ifT_le C 168 dX8_rideOne_161 (by decide) ⟨by decide, by decide⟩ (by decide) ?_
          refine z_bipush C (by decide +kernel) dX8_rideOne_168 ?_
          refine zp_X8_156 C hP hS dX8_rideOne_170 (fun H locs hP hS => ?_)
          obtain ⟨t33, et33⟩ : ∃ z : zS, z = zU t32 100 23 (-6) := ⟨_, rfl⟩
          rw [← et33] at hP
          refine z_aload_n C hl 0 rfl dX8_rideOne_173 ?_
          refine z_iload C hl 4 rfl dX8_rideOne_174 ?_
          refine zp_X8_159 C hP hS dX8_rideOne_176 (fun H locs hP hS => ?_)
          obtain ⟨t34, et34⟩ : ∃ z : zS, z = zU t33 100 24 (-6) := ⟨_, rfl⟩
          rw [← et34] at hP
          refine z_aload_n C hl 0 rfl dX8_rideOne_179 ?_
          refine z_dup C rfl dX8_rideOne_180 ?_
          refine zg_X8_174 C hP dX8_rideOne_181 ?_
          rw [show t34 100 29 = σ 100 29 from by rw [et34, zU_place (by decide), et33, zU_place (by decide), et32, zU_place (by decide), et31, zU_place (by decide), et30, zU_place (by decide), et27, zU_place (by decide), et27c, zU_place (by decide), et27b, zU_place (by decide), et27a, zU_place (by decide)]]
          refine z_iload_n C hl 2 rfl dX8_rideOne_184 ?_
          refine z_iadd C dX8_rideOne_185 ?_
          refine zp_X8_174 C hP hS dX8_rideOne_186 (fun H locs hP hS => ?_)
          obtain ⟨t35, et35⟩ : ∃ z : zS, z = zU t34 100 29 ((σ 100 29) + x28) := ⟨_, rfl⟩
          rw [← et35] at hP
          refine z_aload_n C hl 0 rfl dX8_rideOne_189 ?_
          refine z_dup C rfl dX8_rideOne_190 ?_
          refine zg_X8_177 C hP dX8_rideOne_191 ?_
          rw [show t35 100 30 = σ 100 30 from by rw [et35, zU_place (by decide), et34, zU_place (by decide), et33, zU_place (by decide), et32, zU_place (by decide), et31, zU_place (by decide), et30, zU_place (by decide), et27, zU_place (by decide), et27c, zU_place (by decide), et27b, zU_place (by decide), et27a, zU_place (by decide)]]
          refine z_iload_n C hl 3 rfl dX8_rideOne_194 ?_
          refine z_iadd C dX8_rideOne_195 ?_
          refine zp_X8_177 C hP hS dX8_rideOne_196 (fun H locs hP hS => ?_)
          obtain ⟨t36, et36⟩ : ∃ z : zS, z = zU t35 100 30 ((σ 100 30) + x29) := ⟨_, rfl⟩
          rw [← et36] at hP
          refine z_aload_n C hl 0 rfl dX8_rideOne_199 ?_
          refine z_dup C rfl dX8_rideOne_200 ?_
          refine zg_X8_162 C hP dX8_rideOne_201 ?_
          rw [show t36 100 25 = σ 100 25 + σ 100 8 from by rw [et36, zU_place (by decide), et35, zU_place (by decide), et34, zU_place (by decide), et33, zU_place (by decide), et32, zU_place (by decide), et31, zU_place (by decide), et30, zU_place (by decide), et27, zU_place (by decide), et27c, zU_place (by decide), et27b, zU_place (by decide), et27a, zU_same]]
          refine z_aload_n C hl 0 rfl dX8_rideOne_204 ?_
          refine zg_X8_22 C hP dX8_rideOne_205 ?_
          refine z_iload_n C hl 1 rfl dX8_rideOne_208 ?_
          refine z_iald C hP ia_105 ⟨by omega, by omega⟩ dX8_rideOne_209 ?_
          rw [show t36 105 k = σ 105 k from by rw [et36, zU_cell (by decide), et35, zU_cell (by decide), et34, zU_cell (by decide), et33, zU_cell (by decide), et32, zU_cell (by decide), et31, zU_cell (by decide), et30, zU_cell (by decide), et27, zU_cell (by decide), et27c, zU_cell (by decide), et27b, zU_cell (by decide), et27a, zU_cell (by decide)]]
          refine z_sSi C hP (As := [.int (iI (σ 105 k))]) lk_X8_190 (c_X8_hard hI t36 (σ 105 k) (by omega)) rfl hl.1 rfl (Nat.le_of_ble_eq_true rfl) ⟨Nat.le_of_ble_eq_true rfl, Nat.le_of_ble_eq_true rfl⟩ ⟨Nat.zero_le _, Nat.zero_le _⟩ dX8_rideOne_210 ?_
          have hhb := mHard_b (mSort (σ 105 k))
          refine z_iload_n C hl 2 rfl dX8_rideOne_213 ?_
          refine z_iload_n C hl 3 rfl dX8_rideOne_214 ?_
          refine z_iadd C dX8_rideOne_215 ?_
          refine z_sSi C hP (As := [.int (iI (mHard (mSort (σ 105 k)))), .int (iI (x28 + x29))]) lk_X8_193 (c_X8_seconds hI t36 (mHard (mSort (σ 105 k))) (x28 + x29) (by omega) (by omega)) rfl hl.1 rfl (Nat.le_of_ble_eq_true rfl) ⟨Nat.le_of_ble_eq_true rfl, Nat.le_of_ble_eq_true rfl⟩ ⟨Nat.zero_le _, Nat.zero_le _⟩ dX8_rideOne_216 ?_
          have sb1 : 1 ≤ (mSec (mHard (mSort (σ 105 k))) (x28 + x29)) ∧ (mSec (mHard (mSort (σ 105 k))) (x28 + x29)) ≤ 241 := mSec_b (by omega)
          refine z_iadd C dX8_rideOne_219 ?_
          refine zp_X8_162 C hP hS dX8_rideOne_220 (fun H locs hP hS => ?_)
          obtain ⟨t37, et37⟩ : ∃ z : zS, z = zU t36 100 25 ((σ 100 25 + σ 100 8) + (mSec (mHard (mSort (σ 105 k))) (x28 + x29))) := ⟨_, rfl⟩
          rw [← et37] at hP
          exact z_retQv C hP hS hr hlocks (by have hR := c_7; subst_vars; refine ⟨?_, by simp [zU, mRestM, hR], by simp [zU, mRestM, hR], by simp [zU, mRestM, hR], ?_, by simp [zU, mRestM], by simp [zU, mRestM, jTF], by simp [zU, mRestM, jTB], by simp [zU, mRestM, hR, jT, jTF, jTB]⟩; ((repeat (refine jSame_z ?_ (by decide))); first | exact jSame_r σ | exact fun _ _ _ => rfl); (simp [zU, mRestM]; unfold mWhy; (repeat' split) <;> omega)) dX8_rideOne_223
        · refine z_iconst C dX8_rideOne_150 ?_
          refine z_goto C 156 dX8_rideOne_151 (by decide) ?_
          refine z_istore C [1, 2, 3, 4, 0] [(0, .ref (a 100)), (1, .int (iI k)), (2, .int (iI x28)), (3, .int (iI x29)), (4, .int (iI 3))] hl (by decide) rfl dX8_rideOne_156 (fun ls hl => ?_)
          refine z_aload_n C hl 0 rfl dX8_rideOne_158 ?_
          refine z_iload C hl 4 rfl dX8_rideOne_159 ?_
          refine z_ifF_le C 168 dX8_rideOne_161 (by decide) ⟨by decide, by decide⟩ (by decide) ?_
          refine z_iload_n C hl 1 rfl dX8_rideOne_164 ?_
          refine z_goto C 170 dX8_rideOne_165 (by decide) ?_
          refine zp_X8_156 C hP hS dX8_rideOne_170 (fun H locs hP hS => ?_)
          obtain ⟨t38, et38⟩ : ∃ z : zS, z = zU t32 100 23 k := ⟨_, rfl⟩
          rw [← et38] at hP
          refine z_aload_n C hl 0 rfl dX8_rideOne_173 ?_
          refine z_iload C hl 4 rfl dX8_rideOne_174 ?_
          refine zp_X8_159 C hP hS dX8_rideOne_176 (fun H locs hP hS => ?_)
          obtain ⟨t39, et39⟩ : ∃ z : zS, z = zU t38 100 24 3 := ⟨_, rfl⟩
          rw [← et39] at hP
          refine z_aload_n C hl 0 rfl dX8_rideOne_179 ?_
          refine z_dup C rfl dX8_rideOne_180 ?_
          refine zg_X8_174 C hP dX8_rideOne_181 ?_
          rw [show t39 100 29 = σ 100 29 from by rw [et39, zU_place (by decide), et38, zU_place (by decide), et32, zU_place (by decide), et31, zU_place (by decide), et30, zU_place (by decide), et27, zU_place (by decide), et27c, zU_place (by decide), et27b, zU_place (by decide), et27a, zU_place (by decide)]]
          refine z_iload_n C hl 2 rfl dX8_rideOne_184 ?_
          refine z_iadd C dX8_rideOne_185 ?_
          refine zp_X8_174 C hP hS dX8_rideOne_186 (fun H locs hP hS => ?_)
          obtain ⟨t40, et40⟩ : ∃ z : zS, z = zU t39 100 29 ((σ 100 29) + x28) := ⟨_, rfl⟩
          rw [← et40] at hP
          refine z_aload_n C hl 0 rfl dX8_rideOne_189 ?_
          refine z_dup C rfl dX8_rideOne_190 ?_
          refine zg_X8_177 C hP dX8_rideOne_191 ?_
          rw [show t40 100 30 = σ 100 30 from by rw [et40, zU_place (by decide), et39, zU_place (by decide), et38, zU_place (by decide), et32, zU_place (by decide), et31, zU_place (by decide), et30, zU_place (by decide), et27, zU_place (by decide), et27c, zU_place (by decide), et27b, zU_place (by decide), et27a, zU_place (by decide)]]
          refine z_iload_n C hl 3 rfl dX8_rideOne_194 ?_
          refine z_iadd C dX8_rideOne_195 ?_
          refine zp_X8_177 C hP hS dX8_rideOne_196 (fun H locs hP hS => ?_)
          obtain ⟨t41, et41⟩ : ∃ z : zS, z = zU t40 100 30 ((σ 100 30) + x29) := ⟨_, rfl⟩
          rw [← et41] at hP
          refine z_aload_n C hl 0 rfl dX8_rideOne_199 ?_
          refine z_dup C rfl dX8_rideOne_200 ?_
          refine zg_X8_162 C hP dX8_rideOne_201 ?_
          rw [show t41 100 25 = σ 100 25 + σ 100 8 from by rw [et41, zU_place (by decide), et40, zU_place (by decide), et39, zU_place (by decide), et38, zU_place (by decide), et32, zU_place (by decide), et31, zU_place (by decide), et30, zU_place (by decide), et27, zU_place (by decide), et27c, zU_place (by decide), et27b, zU_place (by decide), et27a, zU_same]]
          refine z_aload_n C hl 0 rfl dX8_rideOne_204 ?_
          refine zg_X8_22 C hP dX8_rideOne_205 ?_
          refine z_iload_n C hl 1 rfl dX8_rideOne_208 ?_
          refine z_iald C hP ia_105 ⟨by omega, by omega⟩ dX8_rideOne_209 ?_
          rw [show t41 105 k = σ 105 k from by rw [et41, zU_cell (by decide), et40, zU_cell (by decide), et39, zU_cell (by decide), et38, zU_cell (by decide), et32, zU_cell (by decide), et31, zU_cell (by decide), et30, zU_cell (by decide), et27, zU_cell (by decide), et27c, zU_cell (by decide), et27b, zU_cell (by decide), et27a, zU_cell (by decide)]]
          refine z_sSi C hP (As := [.int (iI (σ 105 k))]) lk_X8_190 (c_X8_hard hI t41 (σ 105 k) (by omega)) rfl hl.1 rfl (Nat.le_of_ble_eq_true rfl) ⟨Nat.le_of_ble_eq_true rfl, Nat.le_of_ble_eq_true rfl⟩ ⟨Nat.zero_le _, Nat.zero_le _⟩ dX8_rideOne_210 ?_
          have hhb := mHard_b (mSort (σ 105 k))
          refine z_iload_n C hl 2 rfl dX8_rideOne_213 ?_
          refine z_iload_n C hl 3 rfl dX8_rideOne_214 ?_
          refine z_iadd C dX8_rideOne_215 ?_
          refine z_sSi C hP (As := [.int (iI (mHard (mSort (σ 105 k)))), .int (iI (x28 + x29))]) lk_X8_193 (c_X8_seconds hI t41 (mHard (mSort (σ 105 k))) (x28 + x29) (by omega) (by omega)) rfl hl.1 rfl (Nat.le_of_ble_eq_true rfl) ⟨Nat.le_of_ble_eq_true rfl, Nat.le_of_ble_eq_true rfl⟩ ⟨Nat.zero_le _, Nat.zero_le _⟩ dX8_rideOne_216 ?_
          have sb1 : 1 ≤ (mSec (mHard (mSort (σ 105 k))) (x28 + x29)) ∧ (mSec (mHard (mSort (σ 105 k))) (x28 + x29)) ≤ 241 := mSec_b (by omega)
          refine z_iadd C dX8_rideOne_219 ?_
          refine zp_X8_162 C hP hS dX8_rideOne_220 (fun H locs hP hS => ?_)
          obtain ⟨t42, et42⟩ : ∃ z : zS, z = zU t41 100 25 ((σ 100 25 + σ 100 8) + (mSec (mHard (mSort (σ 105 k))) (x28 + x29))) := ⟨_, rfl⟩
          rw [← et42] at hP
          exact z_retQv C hP hS hr hlocks (by have hR := c_7; subst_vars; refine ⟨?_, by simp [zU, mRestM, hR], by simp [zU, mRestM, hR], by simp [zU, mRestM, hR], ?_, by simp [zU, mRestM], by simp [zU, mRestM, jTF], by simp [zU, mRestM, jTB], by simp [zU, mRestM, hR, jT, jTF, jTB]⟩; ((repeat (refine jSame_z ?_ (by decide))); first | exact jSame_r σ | exact fun _ _ _ => rfl); (simp [zU, mRestM]; unfold mWhy; (repeat' split) <;> omega)) dX8_rideOne_223
      · refine z_iconst C dX8_rideOne_135 ?_
        refine z_goto C 156 dX8_rideOne_136 (by decide) ?_
        refine z_istore C [1, 2, 3, 4, 0] [(0, .ref (a 100)), (1, .int (iI k)), (2, .int (iI x28)), (3, .int (iI x29)), (4, .int (iI 2))] hl (by decide) rfl dX8_rideOne_156 (fun ls hl => ?_)
        refine z_aload_n C hl 0 rfl dX8_rideOne_158 ?_
        refine z_iload C hl 4 rfl dX8_rideOne_159 ?_
        refine z_ifF_le C 168 dX8_rideOne_161 (by decide) ⟨by decide, by decide⟩ (by decide) ?_
        refine z_iload_n C hl 1 rfl dX8_rideOne_164 ?_
        refine z_goto C 170 dX8_rideOne_165 (by decide) ?_
        refine zp_X8_156 C hP hS dX8_rideOne_170 (fun H locs hP hS => ?_)
        obtain ⟨t43, et43⟩ : ∃ z : zS, z = zU t32 100 23 k := ⟨_, rfl⟩
        rw [← et43] at hP
        refine z_aload_n C hl 0 rfl dX8_rideOne_173 ?_
        refine z_iload C hl 4 rfl dX8_rideOne_174 ?_
        refine zp_X8_159 C hP hS dX8_rideOne_176 (fun H locs hP hS => ?_)
        obtain ⟨t44, et44⟩ : ∃ z : zS, z = zU t43 100 24 2 := ⟨_, rfl⟩
        rw [← et44] at hP
        refine z_aload_n C hl 0 rfl dX8_rideOne_179 ?_
        refine z_dup C rfl dX8_rideOne_180 ?_
        refine zg_X8_174 C hP dX8_rideOne_181 ?_
        rw [show t44 100 29 = σ 100 29 from by rw [et44, zU_place (by decide), et43, zU_place (by decide), et32, zU_place (by decide), et31, zU_place (by decide), et30, zU_place (by decide), et27, zU_place (by decide), et27c, zU_place (by decide), et27b, zU_place (by decide), et27a, zU_place (by decide)]]
        refine z_iload_n C hl 2 rfl dX8_rideOne_184 ?_
        refine z_iadd C dX8_rideOne_185 ?_
        refine zp_X8_174 C hP hS dX8_rideOne_186 (fun H locs hP hS => ?_)
        obtain ⟨t45, et45⟩ : ∃ z : zS, z = zU t44 100 29 ((σ 100 29) + x28) := ⟨_, rfl⟩
        rw [← et45] at hP
        refine z_aload_n C hl 0 rfl dX8_rideOne_189 ?_
        refine z_dup C rfl dX8_rideOne_190 ?_
        refine zg_X8_177 C hP dX8_rideOne_191 ?_
        rw [show t45 100 30 = σ 100 30 from by rw [et45, zU_place (by decide), et44, zU_place (by decide), et43, zU_place (by decide), et32, zU_place (by decide), et31, zU_place (by decide), et30, zU_place (by decide), et27, zU_place (by decide), et27c, zU_place (by decide), et27b, zU_place (by decide), et27a, zU_place (by decide)]]
        refine z_iload_n C hl 3 rfl dX8_rideOne_194 ?_
        refine z_iadd C dX8_rideOne_195 ?_
        refine zp_X8_177 C hP hS dX8_rideOne_196 (fun H locs hP hS => ?_)
        obtain ⟨t46, et46⟩ : ∃ z : zS, z = zU t45 100 30 ((σ 100 30) + x29) := ⟨_, rfl⟩
        rw [← et46] at hP
        refine z_aload_n C hl 0 rfl dX8_rideOne_199 ?_
        refine z_dup C rfl dX8_rideOne_200 ?_
        refine zg_X8_162 C hP dX8_rideOne_201 ?_
        rw [show t46 100 25 = σ 100 25 + σ 100 8 from by rw [et46, zU_place (by decide), et45, zU_place (by decide), et44, zU_place (by decide), et43, zU_place (by decide), et32, zU_place (by decide), et31, zU_place (by decide), et30, zU_place (by decide), et27, zU_place (by decide), et27c, zU_place (by decide), et27b, zU_place (by decide), et27a, zU_same]]
        refine z_aload_n C hl 0 rfl dX8_rideOne_204 ?_
        refine zg_X8_22 C hP dX8_rideOne_205 ?_
        refine z_iload_n C hl 1 rfl dX8_rideOne_208 ?_
        refine z_iald C hP ia_105 ⟨by omega, by omega⟩ dX8_rideOne_209 ?_
        rw [show t46 105 k = σ 105 k from by rw [et46, zU_cell (by decide), et45, zU_cell (by decide), et44, zU_cell (by decide), et43, zU_cell (by decide), et32, zU_cell (by decide), et31, zU_cell (by decide), et30, zU_cell (by decide), et27, zU_cell (by decide), et27c, zU_cell (by decide), et27b, zU_cell (by decide), et27a, zU_cell (by decide)]]
        refine z_sSi C hP (As := [.int (iI (σ 105 k))]) lk_X8_190 (c_X8_hard hI t46 (σ 105 k) (by omega)) rfl hl.1 rfl (Nat.le_of_ble_eq_true rfl) ⟨Nat.le_of_ble_eq_true rfl, Nat.le_of_ble_eq_true rfl⟩ ⟨Nat.zero_le _, Nat.zero_le _⟩ dX8_rideOne_210 ?_
        have hhb := mHard_b (mSort (σ 105 k))
        refine z_iload_n C hl 2 rfl dX8_rideOne_213 ?_
        refine z_iload_n C hl 3 rfl dX8_rideOne_214 ?_
        refine z_iadd C dX8_rideOne_215 ?_
        refine z_sSi C hP (As := [.int (iI (mHard (mSort (σ 105 k)))), .int (iI (x28 + x29))]) lk_X8_193 (c_X8_seconds hI t46 (mHard (mSort (σ 105 k))) (x28 + x29) (by omega) (by omega)) rfl hl.1 rfl (Nat.le_of_ble_eq_true rfl) ⟨Nat.le_of_ble_eq_true rfl, Nat.le_of_ble_eq_true rfl⟩ ⟨Nat.zero_le _, Nat.zero_le _⟩ dX8_rideOne_216 ?_
        have sb1 : 1 ≤ (mSec (mHard (mSort (σ 105 k))) (x28 + x29)) ∧ (mSec (mHard (mSort (σ 105 k))) (x28 + x29)) ≤ 241 := mSec_b (by omega)
        refine z_iadd C dX8_rideOne_219 ?_
        refine zp_X8_162 C hP hS dX8_rideOne_220 (fun H locs hP hS => ?_)
        obtain ⟨t47, et47⟩ : ∃ z : zS, z = zU t46 100 25 ((σ 100 25 + σ 100 8) + (mSec (mHard (mSort (σ 105 k))) (x28 + x29))) := ⟨_, rfl⟩
        rw [← et47] at hP
        exact z_retQv C hP hS hr hlocks (by have hR := c_7; subst_vars; refine ⟨?_, by simp [zU, mRestM, hR], by simp [zU, mRestM, hR], by simp [zU, mRestM, hR], ?_, by simp [zU, mRestM], by simp [zU, mRestM, jTF], by simp [zU, mRestM, jTB], by simp [zU, mRestM, hR, jT, jTF, jTB]⟩; ((repeat (refine jSame_z ?_ (by decide))); first | exact jSame_r σ | exact fun _ _ _ => rfl); (simp [zU, mRestM]; unfold mWhy; (repeat' split) <;> omega)) dX8_rideOne_223
    · refine z_iconst C dX8_rideOne_124 ?_
      refine z_goto C 156 dX8_rideOne_125 (by decide) ?_
      refine z_istore C [1, 2, 3, 4, 0] [(0, .ref (a 100)), (1, .int (iI k)), (2, .int (iI x28)), (3, .int (iI x29)), (4, .int (iI 1))] hl (by decide) rfl dX8_rideOne_156 (fun ls hl => ?_)
      refine z_aload_n C hl 0 rfl dX8_rideOne_158 ?_
      refine z_iload C hl 4 rfl dX8_rideOne_159 ?_
      refine z_ifF_le C 168 dX8_rideOne_161 (by decide) ⟨by decide, by decide⟩ (by decide) ?_
      refine z_iload_n C hl 1 rfl dX8_rideOne_164 ?_
      refine z_goto C 170 dX8_rideOne_165 (by decide) ?_
      refine zp_X8_156 C hP hS dX8_rideOne_170 (fun H locs hP hS => ?_)
      obtain ⟨t48, et48⟩ : ∃ z : zS, z = zU t32 100 23 k := ⟨_, rfl⟩
      rw [← et48] at hP
      refine z_aload_n C hl 0 rfl dX8_rideOne_173 ?_
      refine z_iload C hl 4 rfl dX8_rideOne_174 ?_
      refine zp_X8_159 C hP hS dX8_rideOne_176 (fun H locs hP hS => ?_)
      obtain ⟨t49, et49⟩ : ∃ z : zS, z = zU t48 100 24 1 := ⟨_, rfl⟩
      rw [← et49] at hP
      refine z_aload_n C hl 0 rfl dX8_rideOne_179 ?_
      refine z_dup C rfl dX8_rideOne_180 ?_
      refine zg_X8_174 C hP dX8_rideOne_181 ?_
      rw [show t49 100 29 = σ 100 29 from by rw [et49, zU_place (by decide), et48, zU_place (by decide), et32, zU_place (by decide), et31, zU_place (by decide), et30, zU_place (by decide), et27, zU_place (by decide), et27c, zU_place (by decide), et27b, zU_place (by decide), et27a, zU_place (by decide)]]
      refine z_iload_n C hl 2 rfl dX8_rideOne_184 ?_
      refine z_iadd C dX8_rideOne_185 ?_
      refine zp_X8_174 C hP hS dX8_rideOne_186 (fun H locs hP hS => ?_)
      obtain ⟨t50, et50⟩ : ∃ z : zS, z = zU t49 100 29 ((σ 100 29) + x28) := ⟨_, rfl⟩
      rw [← et50] at hP
      refine z_aload_n C hl 0 rfl dX8_rideOne_189 ?_
      refine z_dup C rfl dX8_rideOne_190 ?_
      refine zg_X8_177 C hP dX8_rideOne_191 ?_
      rw [show t50 100 30 = σ 100 30 from by rw [et50, zU_place (by decide), et49, zU_place (by decide), et48, zU_place (by decide), et32, zU_place (by decide), et31, zU_place (by decide), et30, zU_place (by decide), et27, zU_place (by decide), et27c, zU_place (by decide), et27b, zU_place (by decide), et27a, zU_place (by decide)]]
      refine z_iload_n C hl 3 rfl dX8_rideOne_194 ?_
      refine z_iadd C dX8_rideOne_195 ?_
      refine zp_X8_177 C hP hS dX8_rideOne_196 (fun H locs hP hS => ?_)
      obtain ⟨t51, et51⟩ : ∃ z : zS, z = zU t50 100 30 ((σ 100 30) + x29) := ⟨_, rfl⟩
      rw [← et51] at hP
      refine z_aload_n C hl 0 rfl dX8_rideOne_199 ?_
      refine z_dup C rfl dX8_rideOne_200 ?_
      refine zg_X8_162 C hP dX8_rideOne_201 ?_
      rw [show t51 100 25 = σ 100 25 + σ 100 8 from by rw [et51, zU_place (by decide), et50, zU_place (by decide), et49, zU_place (by decide), et48, zU_place (by decide), et32, zU_place (by decide), et31, zU_place (by decide), et30, zU_place (by decide), et27, zU_place (by decide), et27c, zU_place (by decide), et27b, zU_place (by decide), et27a, zU_same]]
      refine z_aload_n C hl 0 rfl dX8_rideOne_204 ?_
      refine zg_X8_22 C hP dX8_rideOne_205 ?_
      refine z_iload_n C hl 1 rfl dX8_rideOne_208 ?_
      refine z_iald C hP ia_105 ⟨by omega, by omega⟩ dX8_rideOne_209 ?_
      rw [show t51 105 k = σ 105 k from by rw [et51, zU_cell (by decide), et50, zU_cell (by decide), et49, zU_cell (by decide), et48, zU_cell (by decide), et32, zU_cell (by decide), et31, zU_cell (by decide), et30, zU_cell (by decide), et27, zU_cell (by decide), et27c, zU_cell (by decide), et27b, zU_cell (by decide), et27a, zU_cell (by decide)]]
      refine z_sSi C hP (As := [.int (iI (σ 105 k))]) lk_X8_190 (c_X8_hard hI t51 (σ 105 k) (by omega)) rfl hl.1 rfl (Nat.le_of_ble_eq_true rfl) ⟨Nat.le_of_ble_eq_true rfl, Nat.le_of_ble_eq_true rfl⟩ ⟨Nat.zero_le _, Nat.zero_le _⟩ dX8_rideOne_210 ?_
      have hhb := mHard_b (mSort (σ 105 k))
      refine z_iload_n C hl 2 rfl dX8_rideOne_213 ?_
      refine z_iload_n C hl 3 rfl dX8_rideOne_214 ?_
      refine z_iadd C dX8_rideOne_215 ?_
      refine z_sSi C hP (As := [.int (iI (mHard (mSort (σ 105 k)))), .int (iI (x28 + x29))]) lk_X8_193 (c_X8_seconds hI t51 (mHard (mSort (σ 105 k))) (x28 + x29) (by omega) (by omega)) rfl hl.1 rfl (Nat.le_of_ble_eq_true rfl) ⟨Nat.le_of_ble_eq_true rfl, Nat.le_of_ble_eq_true rfl⟩ ⟨Nat.zero_le _, Nat.zero_le _⟩ dX8_rideOne_216 ?_
      have sb1 : 1 ≤ (mSec (mHard (mSort (σ 105 k))) (x28 + x29)) ∧ (mSec (mHard (mSort (σ 105 k))) (x28 + x29)) ≤ 241 := mSec_b (by omega)
      refine z_iadd C dX8_rideOne_219 ?_
      refine zp_X8_162 C hP hS dX8_rideOne_220 (fun H locs hP hS => ?_)
      obtain ⟨t52, et52⟩ : ∃ z : zS, z = zU t51 100 25 ((σ 100 25 + σ 100 8) + (mSec (mHard (mSort (σ 105 k))) (x28 + x29))) := ⟨_, rfl⟩
      rw [← et52] at hP
      exact z_retQv C hP hS hr hlocks (by have hR := c_7; subst_vars; refine ⟨?_, by simp [zU, mRestM, hR], by simp [zU, mRestM, hR], by simp [zU, mRestM, hR], ?_, by simp [zU, mRestM], by simp [zU, mRestM, jTF], by simp [zU, mRestM, jTB], by simp [zU, mRestM, hR, jT, jTF, jTB]⟩; ((repeat (refine jSame_z ?_ (by decide))); first | exact jSame_r σ | exact fun _ _ _ => rfl); (simp [zU, mRestM]; unfold mWhy; (repeat' split) <;> omega)) dX8_rideOne_223
