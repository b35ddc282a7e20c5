def mSec (hard treads : Int) : Int := hard / (1 + max 0 treads) + 1
def mHard (sort : Int) : Int := if sort = 1 then 120 else if sort = 2 then 240 else if sort = 3 then 30 else if sort = 4 then 20 else 60
def mHeat (heat sort : Int) : Int := if sort = 3 then heat + 2 else if sort = 4 then heat + 5 else max 0 (heat - 1)
def mSore (sore sort : Int) : Int := if sort = 5 then sore + 3 else if sort = 6 then sore + 2 else max 0 (sore - 1)
def mSort (c : Int) : Int := if c = 46 then 0 else if c = 117 then 1 else if c = 85 then 2 else if c = 100 then 3 else if c = 68 then 4 else if c = 99 then 5 else if c = 126 then 6 else -1

set_option maxRecDepth 20000 in
set_option maxHeartbeats 4000000 in
theorem c_X0_secondsOf {l : Launch} {D : va_G} {Y : Nat → ClassId} {a : Int → Nat} (hI : zI a) (σ : zS) (hard treads : Int) (h1 : 0 ≤ hard ∧ hard ≤ 240) (h2 : -100000 ≤ treads ∧ treads ≤ 100000) : zMet l yX0_secondsOf cX0_secondsOf 2 (some .int) 1 (zPc D Y a σ [.int (iI hard), .int (iI treads)]) (zSi (mSec hard treads)) zNo := by
  refine z_start rfl (Nat.le_of_ble_eq_true rfl) hI ?_
  intro p e s m below meth c ls C hr hlocks hl hP
  have hl : lv_has ls 2 [(0, .int (iI hard)), (1, .int (iI treads))] := hl
  refine z_iload_n C hl 0 rfl dX0_secondsOf_0 ?_
  refine z_iconst C dX0_secondsOf_1 ?_
  refine z_iconst C dX0_secondsOf_2 ?_
  refine z_iload_n C hl 1 rfl dX0_secondsOf_3 ?_
  refine z_max C ⟨by omega, by omega⟩ ⟨by omega, by omega⟩ wd_376 hl.1 ⟨(Nat.le_of_ble_eq_true rfl), (Nat.le_of_ble_eq_true rfl)⟩ ⟨Nat.zero_le _, Nat.zero_le _⟩ dX0_secondsOf_4 ?_
  refine z_iadd C dX0_secondsOf_7 ?_
  refine z_idiv C ⟨by omega, by omega, by omega, by omega⟩ dX0_secondsOf_8 ?_
  refine z_iconst C dX0_secondsOf_9 ?_
  refine z_iadd C dX0_secondsOf_10 ?_
  exact z_retSi C hr hlocks rfl (by rfl) dX0_secondsOf_11

set_option maxRecDepth 20000 in
set_option maxHeartbeats 4000000 in
theorem c_X0_hardOf {l : Launch} {D : va_G} {Y : Nat → ClassId} {a : Int → Nat} (hI : zI a) (σ : zS) (sort : Int) (h1 : -100 ≤ sort ∧ sort ≤ 100) : zMet l yX0_hardOf cX0_hardOf 1 (some .int) 0 (zPc D Y a σ [.int (iI sort)]) (zSi (mHard sort)) zNo := by
  refine z_start rfl (Nat.le_of_ble_eq_true rfl) hI ?_
  intro p e s m below meth c ls C hr hlocks hl hP
  have hl : lv_has ls 1 [(0, .int (iI sort))] := hl
  refine z_iload_n C hl 0 rfl dX0_hardOf_0 ?_
  by_cases q_1_1 : sort = 1
  · refine z_tswIn C 1 q_1_1 ⟨⟨by decide, by decide⟩, by decide, by decide⟩ (off := 31) (by decide +kernel) 32 (by decide) dX0_hardOf_1 ?_
    refine z_bipush C (by decide +kernel) dX0_hardOf_32 ?_
    exact z_retSi C hr hlocks rfl (by simp [mHard, *]) dX0_hardOf_34
  by_cases q_1_2 : sort = 2
  · refine z_tswIn C 2 q_1_2 ⟨⟨by decide, by decide⟩, by decide, by decide⟩ (off := 34) (by decide +kernel) 35 (by decide) dX0_hardOf_1 ?_
    refine z_sipush C (by decide +kernel) dX0_hardOf_35 ?_
    exact z_retSi C hr hlocks rfl (by simp [mHard, *]) dX0_hardOf_38
  by_cases q_1_3 : sort = 3
  · refine z_tswIn C 3 q_1_3 ⟨⟨by decide, by decide⟩, by decide, by decide⟩ (off := 38) (by decide +kernel) 39 (by decide) dX0_hardOf_1 ?_
    refine z_bipush C (by decide +kernel) dX0_hardOf_39 ?_
    exact z_retSi C hr hlocks rfl (by simp [mHard, *]) dX0_hardOf_41
  by_cases q_1_4 : sort = 4
  · refine z_tswIn C 4 q_1_4 ⟨⟨by decide, by decide⟩, by decide, by decide⟩ (off := 41) (by decide +kernel) 42 (by decide) dX0_hardOf_1 ?_
    refine z_bipush C (by decide +kernel) dX0_hardOf_42 ?_
    exact z_retSi C hr hlocks rfl (by simp [mHard, *]) dX0_hardOf_44
  refine z_tswOut C ⟨by omega, by omega⟩ (by omega) 45 (by decide) dX0_hardOf_1 ?_
  refine z_bipush C (by decide +kernel) dX0_hardOf_45 ?_
  exact z_retSi C hr hlocks rfl (by simp [mHard, *]) dX0_hardOf_47

set_option maxRecDepth 20000 in
set_option maxHeartbeats 4000000 in
theorem c_X0_heatBehind {l : Launch} {D : va_G} {Y : Nat → ClassId} {a : Int → Nat} (hI : zI a) (σ : zS) (heat sort : Int) (h1 : 0 ≤ heat ∧ heat ≤ 100) (h2 : -100 ≤ sort ∧ sort ≤ 100) : zMet l yX0_heatBehind cX0_heatBehind 2 (some .int) 1 (zPc D Y a σ [.int (iI heat), .int (iI sort)]) (zSi (mHeat heat sort)) zNo := by
  refine z_start rfl (Nat.le_of_ble_eq_true rfl) hI ?_
  intro p e s m below meth c ls C hr hlocks hl hP
  have hl : lv_has ls 2 [(0, .int (iI heat)), (1, .int (iI sort))] := hl
  refine z_iload_n C hl 1 rfl dX0_heatBehind_0 ?_
  refine z_iconst C dX0_heatBehind_1 ?_
  refine z_icmp_ne C 9 dX0_heatBehind_2 (by decide) ⟨by omega, by omega⟩ ⟨by omega, by omega⟩ (fun c_2 => ?_) (fun c_2 => ?_)
  · refine z_iload_n C hl 1 rfl dX0_heatBehind_9 ?_
    refine z_iconst C dX0_heatBehind_10 ?_
    refine z_icmp_ne C 18 dX0_heatBehind_11 (by decide) ⟨by omega, by omega⟩ ⟨by omega, by omega⟩ (fun c_11 => ?_) (fun c_11 => ?_)
    · refine z_iconst C dX0_heatBehind_18 ?_
      refine z_iload_n C hl 0 rfl dX0_heatBehind_19 ?_
      refine z_iconst C dX0_heatBehind_20 ?_
      refine z_isub C dX0_heatBehind_21 ?_
      refine z_max C ⟨by omega, by omega⟩ ⟨by omega, by omega⟩ wd_376 hl.1 ⟨(Nat.le_of_ble_eq_true rfl), (Nat.le_of_ble_eq_true rfl)⟩ ⟨Nat.zero_le _, Nat.zero_le _⟩ dX0_heatBehind_22 ?_
      exact z_retSi C hr hlocks rfl (by simp [mHeat, *]) dX0_heatBehind_25
    · refine z_iload_n C hl 0 rfl dX0_heatBehind_14 ?_
      refine z_iconst C dX0_heatBehind_15 ?_
      refine z_iadd C dX0_heatBehind_16 ?_
      exact z_retSi C hr hlocks rfl (by simp [mHeat, *]) dX0_heatBehind_17
  · refine z_iload_n C hl 0 rfl dX0_heatBehind_5 ?_
    refine z_iconst C dX0_heatBehind_6 ?_
    refine z_iadd C dX0_heatBehind_7 ?_
    exact z_retSi C hr hlocks rfl (by simp [mHeat, *]) dX0_heatBehind_8

set_option maxRecDepth 20000 in
set_option maxHeartbeats 4000000 in
theorem c_X0_soreBehind {l : Launch} {D : va_G} {Y : Nat → ClassId} {a : Int → Nat} (hI : zI a) (σ : zS) (sore sort : Int) (h1 : 0 ≤ sore ∧ sore ≤ 100) (h2 : -100 ≤ sort ∧ sort ≤ 100) : zMet l yX0_soreBehind cX0_soreBehind 2 (some .int) 1 (zPc D Y a σ [.int (iI sore), .int (iI sort)]) (zSi (mSore sore sort)) zNo := by
  refine z_start rfl (Nat.le_of_ble_eq_true rfl) hI ?_
  intro p e s m below meth c ls C hr hlocks hl hP
  have hl : lv_has ls 2 [(0, .int (iI sore)), (1, .int (iI sort))] := hl
  refine z_iload_n C hl 1 rfl dX0_soreBehind_0 ?_
  refine z_iconst C dX0_soreBehind_1 ?_
  refine z_icmp_ne C 9 dX0_soreBehind_2 (by decide) ⟨by omega, by omega⟩ ⟨by omega, by omega⟩ (fun c_2 => ?_) (fun c_2 => ?_)
  · refine z_iload_n C hl 1 rfl dX0_soreBehind_9 ?_
    refine z_bipush C (by decide +kernel) dX0_soreBehind_10 ?_
    refine z_icmp_ne C 19 dX0_soreBehind_12 (by decide) ⟨by omega, by omega⟩ ⟨by omega, by omega⟩ (fun c_12 => ?_) (fun c_12 => ?_)
    · refine z_iconst C dX0_soreBehind_19 ?_
      refine z_iload_n C hl 0 rfl dX0_soreBehind_20 ?_
      refine z_iconst C dX0_soreBehind_21 ?_
      refine z_isub C dX0_soreBehind_22 ?_
      refine z_max C ⟨by omega, by omega⟩ ⟨by omega, by omega⟩ wd_376 hl.1 ⟨(Nat.le_of_ble_eq_true rfl), (Nat.le_of_ble_eq_true rfl)⟩ ⟨Nat.zero_le _, Nat.zero_le _⟩ dX0_soreBehind_23 ?_
      exact z_retSi C hr hlocks rfl (by simp [mSore, *]) dX0_soreBehind_26
    · refine z_iload_n C hl 0 rfl dX0_soreBehind_15 ?_
      refine z_iconst C dX0_soreBehind_16 ?_
      refine z_iadd C dX0_soreBehind_17 ?_
      exact z_retSi C hr hlocks rfl (by simp [mSore, *]) dX0_soreBehind_18
  · refine z_iload_n C hl 0 rfl dX0_soreBehind_5 ?_
    refine z_iconst C dX0_soreBehind_6 ?_
    refine z_iadd C dX0_soreBehind_7 ?_
    exact z_retSi C hr hlocks rfl (by simp [mSore, *]) dX0_soreBehind_8

set_option maxRecDepth 20000 in
set_option maxHeartbeats 4000000 in
theorem c_X0_sortOf {l : Launch} {D : va_G} {Y : Nat → ClassId} {a : Int → Nat} (hI : zI a) (σ : zS) (sign : Int) (h1 : -100000 ≤ sign ∧ sign ≤ 100000) : zMet l yX0_sortOf cX0_sortOf 1 (some .int) 0 (zPc D Y a σ [.int (iI sign)]) (zSi (mSort sign)) zNo := by
  refine z_start rfl (Nat.le_of_ble_eq_true rfl) hI ?_
  intro p e s m below meth c ls C hr hlocks hl hP
  have hl : lv_has ls 1 [(0, .int (iI sign))] := hl
  refine z_iload_n C hl 0 rfl dX0_sortOf_0 ?_
  by_cases q_1_46 : sign = 46
  · refine z_lsw C ⟨by omega, by omega⟩ (by decide +kernel) (off := 67) (by show Op.lookupswitch.offset [(46, 67), (68, 75), (85, 71), (99, 77), (100, 73), (117, 69), (126, 79)] 82 sign = _; rw [Op.lookupswitch.offset_cons, if_pos q_1_46.symm]) 68 (by decide) dX0_sortOf_1 ?_
    refine z_iconst C dX0_sortOf_68 ?_
    exact z_retSi C hr hlocks rfl (by simp [mSort, *]) dX0_sortOf_69
  by_cases q_1_68 : sign = 68
  · refine z_lsw C ⟨by omega, by omega⟩ (by decide +kernel) (off := 75) (by show Op.lookupswitch.offset [(46, 67), (68, 75), (85, 71), (99, 77), (100, 73), (117, 69), (126, 79)] 82 sign = _; rw [Op.lookupswitch.offset_cons, if_neg (fun z => q_1_46 z.symm), Op.lookupswitch.offset_cons, if_pos q_1_68.symm]) 76 (by decide) dX0_sortOf_1 ?_
    refine z_iconst C dX0_sortOf_76 ?_
    exact z_retSi C hr hlocks rfl (by simp [mSort, *]) dX0_sortOf_77
  by_cases q_1_85 : sign = 85
  · refine z_lsw C ⟨by omega, by omega⟩ (by decide +kernel) (off := 71) (by show Op.lookupswitch.offset [(46, 67), (68, 75), (85, 71), (99, 77), (100, 73), (117, 69), (126, 79)] 82 sign = _; rw [Op.lookupswitch.offset_cons, if_neg (fun z => q_1_46 z.symm), Op.lookupswitch.offset_cons, if_neg (fun z => q_1_68 z.symm), Op.lookupswitch.offset_cons, if_pos q_1_85.symm]) 72 (by decide) dX0_sortOf_1 ?_
    refine z_iconst C dX0_sortOf_72 ?_
    exact z_retSi C hr hlocks rfl (by simp [mSort, *]) dX0_sortOf_73
  by_cases q_1_99 : sign = 99
  · refine z_lsw C ⟨by omega, by omega⟩ (by decide +kernel) (off := 77) (by show Op.lookupswitch.offset [(46, 67), (68, 75), (85, 71), (99, 77), (100, 73), (117, 69), (126, 79)] 82 sign = _; rw [Op.lookupswitch.offset_cons, if_neg (fun z => q_1_46 z.symm), Op.lookupswitch.offset_cons, if_neg (fun z => q_1_68 z.symm), Op.lookupswitch.offset_cons, if_neg (fun z => q_1_85 z.symm), Op.lookupswitch.offset_cons, if_pos q_1_99.symm]) 78 (by decide) dX0_sortOf_1 ?_
    refine z_iconst C dX0_sortOf_78 ?_
    exact z_retSi C hr hlocks rfl (by simp [mSort, *]) dX0_sortOf_79
  by_cases q_1_100 : sign = 100
  · refine z_lsw C ⟨by omega, by omega⟩ (by decide +kernel) (off := 73) (by show Op.lookupswitch.offset [(46, 67), (68, 75), (85, 71), (99, 77), (100, 73), (117, 69), (126, 79)] 82 sign = _; rw [Op.lookupswitch.offset_cons, if_neg (fun z => q_1_46 z.symm), Op.lookupswitch.offset_cons, if_neg (fun z => q_1_68 z.symm), Op.lookupswitch.offset_cons, if_neg (fun z => q_1_85 z.symm), Op.lookupswitch.offset_cons, if_neg (fun z => q_1_99 z.symm), Op.lookupswitch.offset_cons, if_pos q_1_100.symm]) 74 (by decide) dX0_sortOf_1 ?_
    refine z_iconst C dX0_sortOf_74 ?_
    exact z_retSi C hr hlocks rfl (by simp [mSort, *]) dX0_sortOf_75
  by_cases q_1_117 : sign = 117
  · refine z_lsw C ⟨by omega, by omega⟩ (by decide +kernel) (off := 69) (by show Op.lookupswitch.offset [(46, 67), (68, 75), (85, 71), (99, 77), (100, 73), (117, 69), (126, 79)] 82 sign = _; rw [Op.lookupswitch.offset_cons, if_neg (fun z => q_1_46 z.symm), Op.lookupswitch.offset_cons, if_neg (fun z => q_1_68 z.symm), Op.lookupswitch.offset_cons, if_neg (fun z => q_1_85 z.symm), Op.lookupswitch.offset_cons, if_neg (fun z => q_1_99 z.symm), Op.lookupswitch.offset_cons, if_neg (fun z => q_1_100 z.symm), Op.lookupswitch.offset_cons, if_pos q_1_117.symm]) 70 (by decide) dX0_sortOf_1 ?_
    refine z_iconst C dX0_sortOf_70 ?_
    exact z_retSi C hr hlocks rfl (by simp [mSort, *]) dX0_sortOf_71
  by_cases q_1_126 : sign = 126
  · refine z_lsw C ⟨by omega, by omega⟩ (by decide +kernel) (off := 79) (by show Op.lookupswitch.offset [(46, 67), (68, 75), (85, 71), (99, 77), (100, 73), (117, 69), (126, 79)] 82 sign = _; rw [Op.lookupswitch.offset_cons, if_neg (fun z => q_1_46 z.symm), Op.lookupswitch.offset_cons, if_neg (fun z => q_1_68 z.symm), Op.lookupswitch.offset_cons, if_neg (fun z => q_1_85 z.symm), Op.lookupswitch.offset_cons, if_neg (fun z => q_1_99 z.symm), Op.lookupswitch.offset_cons, if_neg (fun z => q_1_100 z.symm), Op.lookupswitch.offset_cons, if_neg (fun z => q_1_117 z.symm), Op.lookupswitch.offset_cons, if_pos q_1_126.symm]) 80 (by decide) dX0_sortOf_1 ?_
    refine z_bipush C (by decide +kernel) dX0_sortOf_80 ?_
    exact z_retSi C hr hlocks rfl (by simp [mSort, *]) dX0_sortOf_82
  refine z_lsw C ⟨by omega, by omega⟩ (by decide +kernel) (off := 82) (by show Op.lookupswitch.offset [(46, 67), (68, 75), (85, 71), (99, 77), (100, 73), (117, 69), (126, 79)] 82 sign = _; rw [Op.lookupswitch.offset_cons, if_neg (fun z => q_1_46 z.symm), Op.lookupswitch.offset_cons, if_neg (fun z => q_1_68 z.symm), Op.lookupswitch.offset_cons, if_neg (fun z => q_1_85 z.symm), Op.lookupswitch.offset_cons, if_neg (fun z => q_1_99 z.symm), Op.lookupswitch.offset_cons, if_neg (fun z => q_1_100 z.symm), Op.lookupswitch.offset_cons, if_neg (fun z => q_1_117 z.symm), Op.lookupswitch.offset_cons, if_neg (fun z => q_1_126 z.symm)]; rfl) 83 (by decide) dX0_sortOf_1 ?_
  refine z_iconst C dX0_sortOf_83 ?_
  exact z_retSi C hr hlocks rfl (by simp [mSort, *]) dX0_sortOf_84
