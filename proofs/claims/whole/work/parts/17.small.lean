theorem mulb {x y A B : Int} (hx : 0 ≤ x ∧ x ≤ A) (hy : 0 ≤ y ∧ y ≤ B) : 0 ≤ x * y ∧ x * y ≤ A * B := ⟨Int.mul_nonneg hx.1 hy.1, Int.mul_le_mul hx.2 hy.2 hy.1 (Int.le_trans hx.1 hx.2)⟩
def mAbs (x : Int) : Int := if 0 ≤ x then x else -x
def mTread (str lik e b : Int) : Int := e * str * (10 - mAbs (b - lik)) / 10
theorem mAbs_b {x : Int} (h : -10 ≤ x ∧ x ≤ 10) : 0 ≤ mAbs x ∧ mAbs x ≤ 10 := by unfold mAbs; split <;> omega
theorem mTread_num {str lik e b : Int} (h1 : 0 ≤ str ∧ str ≤ 20) (h2 : 0 ≤ lik ∧ lik ≤ 10) (h3 : 0 ≤ e ∧ e ≤ 4) (h4 : 4 ≤ b ∧ b ≤ 10) : 0 ≤ e * str * (10 - mAbs (b - lik)) ∧ e * str * (10 - mAbs (b - lik)) ≤ 800 := by
  have a1 := mulb h3 h1
  have a2 := mAbs_b (x := b - lik) (by omega)
  have a3 := mulb (x := e * str) (y := 10 - mAbs (b - lik)) (A := 80) (B := 10) (by omega) (by omega)
  omega
theorem mTread_b {str lik e b : Int} (h1 : 0 ≤ str ∧ str ≤ 20) (h2 : 0 ≤ lik ∧ lik ≤ 10) (h3 : 0 ≤ e ∧ e ≤ 4) (h4 : 4 ≤ b ∧ b ≤ 10) : 0 ≤ mTread str lik e b ∧ mTread str lik e b ≤ 80 := by
  have := mTread_num h1 h2 h3 h4
  unfold mTread
  omega
theorem mSec_b {h t : Int} (h1 : 0 ≤ h ∧ h ≤ 240) : 1 ≤ mSec h t ∧ mSec h t ≤ 241 := by
  have e1 : 0 ≤ h / (1 + max 0 t) := Int.ediv_nonneg h1.1 (by omega)
  have e2 : h / (1 + max 0 t) ≤ h := Int.ediv_le_self _ h1.1
  unfold mSec
  omega
theorem mHard_b (s : Int) : 20 ≤ mHard s ∧ mHard s ≤ 240 := by
  unfold mHard
  repeat' split
  all_goals omega
theorem mSort_b (c : Int) : -1 ≤ mSort c ∧ mSort c ≤ 6 := by
  unfold mSort
  repeat' split
  all_goals omega
def mWind (w now e : Int) : Int := min w (now + 2 - e)
def mCell (h x y : Int) : Int := (h * 10 + x) * 10 + y
def mCrank (k : Int) : Int := 6 - mAbs (k - 6)

set_option maxRecDepth 20000 in
set_option maxHeartbeats 4000000 in
theorem c_X4_treads {l : Launch} {D : va_G} {Y : Nat → ClassId} {a : Int → Nat} (hI : zI a) (σ : zS) (k effort beat : Int) (hk : zRid k) (hs : 0 ≤ σ k 1 ∧ σ k 1 ≤ 20) (hl2 : 0 ≤ σ k 2 ∧ σ k 2 ≤ 10) (he : 0 ≤ effort ∧ effort ≤ 4) (hb : 4 ≤ beat ∧ beat ≤ 10) : zMet l yX4_treads cX4_treads 3 (some .int) 1 (zPc D Y a σ [.ref (a k), .int (iI effort), .int (iI beat)]) (zSi (mTread (σ k 1) (σ k 2) effort beat)) zNo := by
  refine z_start rfl (Nat.le_of_ble_eq_true rfl) hI ?_
  intro p e s m below meth c ls C hr hlocks hl hP
  have hl : lv_has ls 3 [(0, .ref (a k)), (1, .int (iI effort)), (2, .int (iI beat))] := hl
  refine z_iload_n C hl 1 rfl dX4_treads_0 ?_
  refine z_aload_n C hl 0 rfl dX4_treads_1 ?_
  refine zg_X4_13 C hP hk dX4_treads_2 ?_
  refine z_imul C dX4_treads_5 ?_
  refine z_bipush C (by decide +kernel) dX4_treads_6 ?_
  refine z_iload_n C hl 2 rfl dX4_treads_8 ?_
  refine z_aload_n C hl 0 rfl dX4_treads_9 ?_
  refine zg_X4_17 C hP hk dX4_treads_10 ?_
  refine z_isub C dX4_treads_13 ?_
  have hnum := mTread_num hs hl2 he hb
  unfold mAbs at hnum
  refine z_abs C ⟨by omega, by omega⟩ wd_315 hl.1 ⟨(Nat.le_of_ble_eq_true rfl), (Nat.le_of_ble_eq_true rfl)⟩ ⟨Nat.zero_le _, Nat.zero_le _⟩ dX4_treads_14 ?_
  refine z_isub C dX4_treads_17 ?_
  refine z_imul C dX4_treads_18 ?_
  refine z_bipush C (by decide +kernel) dX4_treads_19 ?_
  refine z_idiv C ⟨by omega, by omega, by omega, by omega⟩ dX4_treads_21 ?_
  exact z_retSi C hr hlocks rfl (by rfl) dX4_treads_22

set_option maxRecDepth 20000 in
set_option maxHeartbeats 4000000 in
theorem c_X4_treadsAsLiked {l : Launch} {D : va_G} {Y : Nat → ClassId} {a : Int → Nat} (hI : zI a) (σ : zS) (k effort : Int) (hk : zRid k) : zMet l yX4_treadsAsLiked cX4_treadsAsLiked 2 (some .int) 0 (zPc D Y a σ [.ref (a k), .int (iI effort)]) (zSi (effort * σ k 1)) zNo := by
  refine z_start rfl (Nat.le_of_ble_eq_true rfl) hI ?_
  intro p e s m below meth c ls C hr hlocks hl hP
  have hl : lv_has ls 2 [(0, .ref (a k)), (1, .int (iI effort))] := hl
  refine z_iload_n C hl 1 rfl dX4_treadsAsLiked_0 ?_
  refine z_aload_n C hl 0 rfl dX4_treadsAsLiked_1 ?_
  refine zg_X4_13 C hP hk dX4_treadsAsLiked_2 ?_
  refine z_imul C dX4_treadsAsLiked_5 ?_
  exact z_retSi C hr hlocks rfl (by rfl) dX4_treadsAsLiked_6

set_option maxRecDepth 20000 in
set_option maxHeartbeats 4000000 in
theorem c_X4_losesAt {l : Launch} {D : va_G} {Y : Nat → ClassId} {a : Int → Nat} (hI : zI a) (σ : zS) (k effort beat : Int) (hk : zRid k) (hs : 0 ≤ σ k 1 ∧ σ k 1 ≤ 20) (hl2 : 0 ≤ σ k 2 ∧ σ k 2 ≤ 10) (he : 0 ≤ effort ∧ effort ≤ 4) (hb : 4 ≤ beat ∧ beat ≤ 10) : zMet l yX4_losesAt cX4_losesAt 3 (some .int) 2 (zPc D Y a σ [.ref (a k), .int (iI effort), .int (iI beat)]) (zSi (effort * σ k 1 - mTread (σ k 1) (σ k 2) effort beat)) zNo := by
  refine z_start rfl (Nat.le_of_ble_eq_true rfl) hI ?_
  intro p e s m below meth c ls C hr hlocks hl hP
  have hl : lv_has ls 3 [(0, .ref (a k)), (1, .int (iI effort)), (2, .int (iI beat))] := hl
  refine z_aload_n C hl 0 rfl dX4_losesAt_0 ?_
  refine z_iload_n C hl 1 rfl dX4_losesAt_1 ?_
  refine z_vSi C hP (As := [.int (iI effort)]) lk_X4_32 (c_X4_treadsAsLiked hI σ k effort (by omega)) (ob_rid hk) rfl rfl rfl hl.1 rfl (Nat.le_of_ble_eq_true rfl) ⟨Nat.le_of_ble_eq_true rfl, Nat.le_of_ble_eq_true rfl⟩ ⟨Nat.zero_le _, Nat.zero_le _⟩ dX4_losesAt_2 ?_
  refine z_aload_n C hl 0 rfl dX4_losesAt_5 ?_
  refine z_iload_n C hl 1 rfl dX4_losesAt_6 ?_
  refine z_iload_n C hl 2 rfl dX4_losesAt_7 ?_
  refine z_vSi C hP (As := [.int (iI effort), .int (iI beat)]) lk_X4_35 (c_X4_treads hI σ k effort beat (by omega) (by omega) (by omega) (by omega) (by omega)) (ob_rid hk) rfl rfl rfl hl.1 rfl (Nat.le_of_ble_eq_true rfl) ⟨Nat.le_of_ble_eq_true rfl, Nat.le_of_ble_eq_true rfl⟩ ⟨Nat.zero_le _, Nat.zero_le _⟩ dX4_losesAt_8 ?_
  refine z_isub C dX4_losesAt_11 ?_
  exact z_retSi C hr hlocks rfl (by rfl) dX4_losesAt_12

set_option maxRecDepth 20000 in
set_option maxHeartbeats 4000000 in
theorem c_X4_windBehind {l : Launch} {D : va_G} {Y : Nat → ClassId} {a : Int → Nat} (hI : zI a) (σ : zS) (w ahead effort : Int) (hw : 0 ≤ w ∧ w ≤ 9) (ha : -100 ≤ ahead ∧ ahead ≤ 100) (he : 0 ≤ effort ∧ effort ≤ 4) : zMet l yX4_windBehind cX4_windBehind 3 (some .int) 1 (zPc D Y a σ [.int (iI w), .int (iI ahead), .int (iI effort)]) (zSi (mWind w ahead effort)) zNo := by
  refine z_start rfl (Nat.le_of_ble_eq_true rfl) hI ?_
  intro p e s m below meth c ls C hr hlocks hl hP
  have hl : lv_has ls 3 [(0, .int (iI w)), (1, .int (iI ahead)), (2, .int (iI effort))] := hl
  refine z_iload_n C hl 0 rfl dX4_windBehind_0 ?_
  refine z_iload_n C hl 1 rfl dX4_windBehind_1 ?_
  refine z_iconst C dX4_windBehind_2 ?_
  refine z_iadd C dX4_windBehind_3 ?_
  refine z_iload_n C hl 2 rfl dX4_windBehind_4 ?_
  refine z_isub C dX4_windBehind_5 ?_
  refine z_min C ⟨by omega, by omega⟩ ⟨by omega, by omega⟩ wd_372 hl.1 ⟨(Nat.le_of_ble_eq_true rfl), (Nat.le_of_ble_eq_true rfl)⟩ ⟨Nat.zero_le _, Nat.zero_le _⟩ dX4_windBehind_6 ?_
  exact z_retSi C hr hlocks rfl (by rfl) dX4_windBehind_9

set_option maxRecDepth 20000 in
set_option maxHeartbeats 4000000 in
theorem c_X7_isWithin {l : Launch} {D : va_G} {Y : Nat → ClassId} {a : Int → Nat} (hI : zI a) (σ : zS) (v least most : Int) (h1 : R3 v) (h2 : R3 least) (h3 : R3 most) : zMet l yX7_isWithin cX7_isWithin 3 (some .boolean) 0 (zPc D Y a σ [.int (iI v), .int (iI least), .int (iI most)]) (zSi (if least ≤ v ∧ v ≤ most then (1 : Int) else 0)) zNo := by
  refine z_start rfl (Nat.le_of_ble_eq_true rfl) hI ?_
  intro p e s m below meth c ls C hr hlocks hl hP
  have hl : lv_has ls 3 [(0, .int (iI v)), (1, .int (iI least)), (2, .int (iI most))] := hl
  refine z_iload_n C hl 0 rfl dX7_isWithin_0 ?_
  refine z_iload_n C hl 1 rfl dX7_isWithin_1 ?_
  refine z_icmp_lt C 14 dX7_isWithin_2 (by decide) h1 h2 (fun c_2 => ?_) (fun c_2 => ?_)
  · refine z_iconst C dX7_isWithin_14 ?_
    exact z_retSi C hr hlocks (zNb (by first | omega | (split <;> omega))) (by first | rfl | (rw [if_pos (by omega)]) | (rw [if_neg (by omega)]) | omega) dX7_isWithin_15
  · refine z_iload_n C hl 0 rfl dX7_isWithin_5 ?_
    refine z_iload_n C hl 2 rfl dX7_isWithin_6 ?_
    refine z_icmp_gt C 14 dX7_isWithin_7 (by decide) h1 h3 (fun c_7 => ?_) (fun c_7 => ?_)
    · refine z_iconst C dX7_isWithin_14 ?_
      exact z_retSi C hr hlocks (zNb (by first | omega | (split <;> omega))) (by first | rfl | (rw [if_pos (by omega)]) | (rw [if_neg (by omega)]) | omega) dX7_isWithin_15
    · refine z_iconst C dX7_isWithin_10 ?_
      refine z_goto C 15 dX7_isWithin_11 (by decide) ?_
      exact z_retSi C hr hlocks (zNb (by first | omega | (split <;> omega))) (by first | rfl | (rw [if_pos (by omega)]) | (rw [if_neg (by omega)]) | omega) dX7_isWithin_15

set_option maxRecDepth 20000 in
set_option maxHeartbeats 4000000 in
theorem c_X7_isEffort {l : Launch} {D : va_G} {Y : Nat → ClassId} {a : Int → Nat} (hI : zI a) (σ : zS) (effort : Int) (h1 : R3 effort) : zMet l yX7_isEffort cX7_isEffort 1 (some .boolean) 1 (zPc D Y a σ [.int (iI effort)]) (zSi (if 0 ≤ effort ∧ effort ≤ 4 then (1 : Int) else 0)) zNo := by
  refine z_start rfl (Nat.le_of_ble_eq_true rfl) hI ?_
  intro p e s m below meth c ls C hr hlocks hl hP
  have hl : lv_has ls 1 [(0, .int (iI effort))] := hl
  refine z_iload_n C hl 0 rfl dX7_isEffort_0 ?_
  refine z_iconst C dX7_isEffort_1 ?_
  refine z_iconst C dX7_isEffort_2 ?_
  refine z_sSi C hP (As := [.int (iI effort), .int (iI 0), .int (iI 4)]) lk_X7_52 (c_X7_isWithin hI σ effort 0 4 h1 ⟨by decide, by decide⟩ ⟨by decide, by decide⟩) rfl hl.1 rfl (Nat.le_of_ble_eq_true rfl) ⟨Nat.le_of_ble_eq_true rfl, Nat.le_of_ble_eq_true rfl⟩ ⟨Nat.zero_le _, Nat.zero_le _⟩ dX7_isEffort_3 ?_
  exact z_retSi C hr hlocks (zNb (by first | omega | (split <;> omega))) (by rfl) dX7_isEffort_6

set_option maxRecDepth 20000 in
set_option maxHeartbeats 4000000 in
theorem c_X7_crankAt {l : Launch} {D : va_G} {Y : Nat → ClassId} {a : Int → Nat} (hI : zI a) (σ : zS) (k : Int) (h1 : 0 ≤ k ∧ k ≤ 12) : zMet l yX7_crankAt cX7_crankAt 1 (some .int) 1 (zPc D Y a σ [.int (iI k)]) (zSi (mCrank k)) zNo := by
  refine z_start rfl (Nat.le_of_ble_eq_true rfl) hI ?_
  intro p e s m below meth c ls C hr hlocks hl hP
  have hl : lv_has ls 1 [(0, .int (iI k))] := hl
  refine z_bipush C (by decide +kernel) dX7_crankAt_0 ?_
  refine z_iload_n C hl 0 rfl dX7_crankAt_2 ?_
  refine z_bipush C (by decide +kernel) dX7_crankAt_3 ?_
  refine z_isub C dX7_crankAt_5 ?_
  refine z_abs C ⟨by omega, by omega⟩ wd_660 hl.1 ⟨(Nat.le_of_ble_eq_true rfl), (Nat.le_of_ble_eq_true rfl)⟩ ⟨Nat.zero_le _, Nat.zero_le _⟩ dX7_crankAt_6 ?_
  refine z_isub C dX7_crankAt_9 ?_
  exact z_retSi C hr hlocks rfl (by rfl) dX7_crankAt_10

set_option maxRecDepth 20000 in
set_option maxHeartbeats 4000000 in
theorem c_X5_cellOf {l : Launch} {D : va_G} {Y : Nat → ClassId} {a : Int → Nat} (hI : zI a) (σ : zS) (heat wf wb : Int) : zMet l yX5_cellOf cX5_cellOf 3 (some .int) 0 (zPc D Y a σ [.int (iI heat), .int (iI wf), .int (iI wb)]) (zSi (mCell heat wf wb)) zNo := by
  refine z_start rfl (Nat.le_of_ble_eq_true rfl) hI ?_
  intro p e s m below meth c ls C hr hlocks hl hP
  have hl : lv_has ls 3 [(0, .int (iI heat)), (1, .int (iI wf)), (2, .int (iI wb))] := hl
  refine z_iload_n C hl 0 rfl dX5_cellOf_0 ?_
  refine z_bipush C (by decide +kernel) dX5_cellOf_1 ?_
  refine z_imul C dX5_cellOf_3 ?_
  refine z_iload_n C hl 1 rfl dX5_cellOf_4 ?_
  refine z_iadd C dX5_cellOf_5 ?_
  refine z_bipush C (by decide +kernel) dX5_cellOf_6 ?_
  refine z_imul C dX5_cellOf_8 ?_
  refine z_iload_n C hl 2 rfl dX5_cellOf_9 ?_
  refine z_iadd C dX5_cellOf_10 ?_
  exact z_retSi C hr hlocks rfl (by rfl) dX5_cellOf_11

set_option maxRecDepth 20000 in
set_option maxHeartbeats 4000000 in
theorem c_X3_reasonAgainst {l : Launch} {D : va_G} {Y : Nat → ClassId} {a : Int → Nat} (hI : zI a) (σ : zS) (wf wb hot hottest : Int) (h1 : -100 ≤ wf ∧ wf ≤ 100) (h2 : -100 ≤ wb ∧ wb ≤ 100) (h3 : -100 ≤ hot ∧ hot ≤ 100) (h4 : -100 ≤ hottest ∧ hottest ≤ 100) : zMet l yX3_reasonAgainst cX3_reasonAgainst 4 (some .int) 0 (zPc D Y a σ [.int (iI wf), .int (iI wb), .int (iI hot), .int (iI hottest)]) (zSi (if wf < 0 then 1 else if wb < 0 then 2 else if hottest < hot then 3 else -6)) zNo := by
  refine z_start rfl (Nat.le_of_ble_eq_true rfl) hI ?_
  intro p e s m below meth c ls C hr hlocks hl hP
  have hl : lv_has ls 4 [(0, .int (iI wf)), (1, .int (iI wb)), (2, .int (iI hot)), (3, .int (iI hottest))] := hl
  refine z_iload_n C hl 0 rfl dX3_reasonAgainst_0 ?_
  refine z_if_ge C 6 dX3_reasonAgainst_1 (by decide) ⟨by omega, by omega⟩ (fun c_1 => ?_) (fun c_1 => ?_)
  · refine z_iload_n C hl 1 rfl dX3_reasonAgainst_6 ?_
    refine z_if_ge C 12 dX3_reasonAgainst_7 (by decide) ⟨by omega, by omega⟩ (fun c_7 => ?_) (fun c_7 => ?_)
    · refine z_iload_n C hl 2 rfl dX3_reasonAgainst_12 ?_
      refine z_iload_n C hl 3 rfl dX3_reasonAgainst_13 ?_
      refine z_icmp_le C 21 dX3_reasonAgainst_14 (by decide) ⟨by omega, by omega⟩ ⟨by omega, by omega⟩ (fun c_14 => ?_) (fun c_14 => ?_)
      · refine z_bipush C (by decide +kernel) dX3_reasonAgainst_21 ?_
        exact z_retSi C hr hlocks rfl (by (first | rfl | (simp [*]; done) | (repeat' split) <;> omega)) dX3_reasonAgainst_23
      · refine z_iconst C dX3_reasonAgainst_17 ?_
        refine z_goto C 23 dX3_reasonAgainst_18 (by decide) ?_
        exact z_retSi C hr hlocks rfl (by (first | rfl | (simp [*]; done) | (repeat' split) <;> omega)) dX3_reasonAgainst_23
    · refine z_iconst C dX3_reasonAgainst_10 ?_
      exact z_retSi C hr hlocks rfl (by (first | rfl | (simp [*]; done) | (repeat' split) <;> omega)) dX3_reasonAgainst_11
  · refine z_iconst C dX3_reasonAgainst_4 ?_
    exact z_retSi C hr hlocks rfl (by (first | rfl | (simp [*]; done) | (repeat' split) <;> omega)) dX3_reasonAgainst_5

set_option maxRecDepth 20000 in
set_option maxHeartbeats 4000000 in
theorem c_X8_in {l : Launch} {D : va_G} {Y : Nat → ClassId} {a : Int → Nat} (hI : zI a) (σ : zS) (v low high : Int) (h1 : R6 v) (h2 : R6 low) (h3 : R6 high) : zMet l yX8_in cX8_in 6 (some .boolean) 0 (zPc D Y a σ [.long (jI v), .long (jI low), .long (jI high)]) (zSi (if low ≤ v ∧ v ≤ high then (1 : Int) else 0)) zNo := by
  refine z_start rfl (Nat.le_of_ble_eq_true rfl) hI ?_
  intro p e s m below meth c ls C hr hlocks hl hP
  have hl : lv_has ls 6 [(0, .long (jI v)), (2, .long (jI low)), (4, .long (jI high))] := hl
  refine z_lload_n C hl 0 rfl dX8_in_0 ?_
  refine z_lload_n C hl 1 rfl dX8_in_1 ?_
  refine z_lif_lt C 17 dX8_in_2 dX8_in_3 (by decide) h1 h2 (fun c_3 => ?_) (fun c_3 => ?_)
  · refine z_iconst C dX8_in_17 ?_
    exact z_retSi C hr hlocks (zNb (by first | omega | (split <;> omega))) (by first | rfl | (rw [if_pos (by omega)]) | (rw [if_neg (by omega)]) | omega) dX8_in_18
  · refine z_lload_n C hl 0 rfl dX8_in_6 ?_
    refine z_lload C hl 2 rfl dX8_in_7 ?_
    refine z_lif_gt C 17 dX8_in_9 dX8_in_10 (by decide) h1 h3 (fun c_10 => ?_) (fun c_10 => ?_)
    · refine z_iconst C dX8_in_17 ?_
      exact z_retSi C hr hlocks (zNb (by first | omega | (split <;> omega))) (by first | rfl | (rw [if_pos (by omega)]) | (rw [if_neg (by omega)]) | omega) dX8_in_18
    · refine z_iconst C dX8_in_13 ?_
      refine z_goto C 18 dX8_in_14 (by decide) ?_
      exact z_retSi C hr hlocks (zNb (by first | omega | (split <;> omega))) (by first | rfl | (rw [if_pos (by omega)]) | (rw [if_neg (by omega)]) | omega) dX8_in_18

set_option maxRecDepth 20000 in
set_option maxHeartbeats 4000000 in
theorem c_X8_isNumber {l : Launch} {D : va_G} {Y : Nat → ClassId} {a : Int → Nat} (hI : zI a) (σ : zS) (r : Int) (h1 : R3 r) : zMet l yX8_isNumber cX8_isNumber 1 (some .boolean) 1 (zPc D Y a σ [.int (iI r)]) (zSi (if 0 ≤ r ∧ r ≤ 3 then (1 : Int) else 0)) zNo := by
  refine z_start rfl (Nat.le_of_ble_eq_true rfl) hI ?_
  intro p e s m below meth c ls C hr hlocks hl hP
  have hl : lv_has ls 1 [(0, .int (iI r))] := hl
  refine z_iload_n C hl 0 rfl dX8_isNumber_0 ?_
  refine z_i2l C ⟨by omega, by omega⟩ dX8_isNumber_1 ?_
  refine z_lconst C (z := 0) rfl dX8_isNumber_2 ?_
  refine z_ldc2 C (z := 3) wd_162 (by decide +kernel) dX8_isNumber_3 ?_
  refine z_sSi C hP (As := [.long (jI r), .long (jI 0), .long (jI 3)]) lk_X8_86 (c_X8_in hI σ r 0 3 ⟨by omega, by omega⟩ ⟨by decide, by decide⟩ ⟨by decide, by decide⟩) rfl hl.1 rfl (Nat.le_of_ble_eq_true rfl) ⟨Nat.le_of_ble_eq_true rfl, Nat.le_of_ble_eq_true rfl⟩ ⟨Nat.zero_le _, Nat.zero_le _⟩ dX8_isNumber_6 ?_
  exact z_retSi C hr hlocks (zNb (by first | omega | (split <;> omega))) (by rfl) dX8_isNumber_9

set_option maxRecDepth 20000 in
set_option maxHeartbeats 4000000 in
theorem c_X8_isBeat {l : Launch} {D : va_G} {Y : Nat → ClassId} {a : Int → Nat} (hI : zI a) (σ : zS) (b : Int) (h1 : R3 b) : zMet l yX8_isBeat cX8_isBeat 1 (some .boolean) 1 (zPc D Y a σ [.int (iI b)]) (zSi (if 4 ≤ b ∧ b ≤ 10 then (1 : Int) else 0)) zNo := by
  refine z_start rfl (Nat.le_of_ble_eq_true rfl) hI ?_
  intro p e s m below meth c ls C hr hlocks hl hP
  have hl : lv_has ls 1 [(0, .int (iI b))] := hl
  refine z_iload_n C hl 0 rfl dX8_isBeat_0 ?_
  refine z_i2l C ⟨by omega, by omega⟩ dX8_isBeat_1 ?_
  refine z_ldc2 C (z := 4) wd_169 (by decide +kernel) dX8_isBeat_2 ?_
  refine z_ldc2 C (z := 10) wd_170 (by decide +kernel) dX8_isBeat_5 ?_
  refine z_sSi C hP (As := [.long (jI b), .long (jI 4), .long (jI 10)]) lk_X8_86 (c_X8_in hI σ b 4 10 ⟨by omega, by omega⟩ ⟨by decide, by decide⟩ ⟨by decide, by decide⟩) rfl hl.1 rfl (Nat.le_of_ble_eq_true rfl) ⟨Nat.le_of_ble_eq_true rfl, Nat.le_of_ble_eq_true rfl⟩ ⟨Nat.zero_le _, Nat.zero_le _⟩ dX8_isBeat_8 ?_
  exact z_retSi C hr hlocks (zNb (by first | omega | (split <;> omega))) (by rfl) dX8_isBeat_11

set_option maxRecDepth 20000 in
set_option maxHeartbeats 4000000 in
theorem c_X8_isEffort {l : Launch} {D : va_G} {Y : Nat → ClassId} {a : Int → Nat} (hI : zI a) (σ : zS) (e0 : Int) (h1 : R3 e0) : zMet l yX8_isEffort cX8_isEffort 1 (some .boolean) 1 (zPc D Y a σ [.int (iI e0)]) (zSi (if 0 ≤ e0 ∧ e0 ≤ 4 then (1 : Int) else 0)) zNo := by
  refine z_start rfl (Nat.le_of_ble_eq_true rfl) hI ?_
  intro p e s m below meth c ls C hr hlocks hl hP
  have hl : lv_has ls 1 [(0, .int (iI e0))] := hl
  refine z_iload_n C hl 0 rfl dX8_isEffort_0 ?_
  refine z_i2l C ⟨by omega, by omega⟩ dX8_isEffort_1 ?_
  refine z_lconst C (z := 0) rfl dX8_isEffort_2 ?_
  refine z_ldc2 C (z := 4) wd_169 (by decide +kernel) dX8_isEffort_3 ?_
  refine z_sSi C hP (As := [.long (jI e0), .long (jI 0), .long (jI 4)]) lk_X8_86 (c_X8_in hI σ e0 0 4 ⟨by omega, by omega⟩ ⟨by decide, by decide⟩ ⟨by decide, by decide⟩) rfl hl.1 rfl (Nat.le_of_ble_eq_true rfl) ⟨Nat.le_of_ble_eq_true rfl, Nat.le_of_ble_eq_true rfl⟩ ⟨Nat.zero_le _, Nat.zero_le _⟩ dX8_isEffort_6 ?_
  exact z_retSi C hr hlocks (zNb (by first | omega | (split <;> omega))) (by rfl) dX8_isEffort_9

set_option maxRecDepth 20000 in
set_option maxHeartbeats 4000000 in
theorem c_X8_isSort {l : Launch} {D : va_G} {Y : Nat → ClassId} {a : Int → Nat} (hI : zI a) (σ : zS) (ch : Int) (h1 : 0 ≤ ch ∧ ch ≤ 200) : zMet l yX8_isSort cX8_isSort 1 (some .boolean) 0 (zPc D Y a σ [.int (iI ch)]) (zSi (if ch = 46 ∨ ch = 117 ∨ ch = 85 ∨ ch = 100 ∨ ch = 68 ∨ ch = 99 ∨ ch = 126 then (1 : Int) else 0)) zNo := by
  refine z_start rfl (Nat.le_of_ble_eq_true rfl) hI ?_
  intro p e s m below meth c ls C hr hlocks hl hP
  have hl : lv_has ls 1 [(0, .int (iI ch))] := hl
  refine z_iload_n C hl 0 rfl dX8_isSort_0 ?_
  refine z_bipush C (by decide +kernel) dX8_isSort_1 ?_
  refine z_icmp_eq C 42 dX8_isSort_3 (by decide) ⟨by omega, by omega⟩ ⟨by omega, by omega⟩ (fun c_3 => ?_) (fun c_3 => ?_)
  · refine z_iconst C dX8_isSort_42 ?_
    refine z_goto C 47 dX8_isSort_43 (by decide) ?_
    exact z_retSi C hr hlocks (zNb (by first | omega | (split <;> omega))) (by first | rfl | (rw [if_pos (by omega)]) | (rw [if_neg (by omega)]) | omega) dX8_isSort_47
  · refine z_iload_n C hl 0 rfl dX8_isSort_6 ?_
    refine z_bipush C (by decide +kernel) dX8_isSort_7 ?_
    refine z_icmp_eq C 42 dX8_isSort_9 (by decide) ⟨by omega, by omega⟩ ⟨by omega, by omega⟩ (fun c_9 => ?_) (fun c_9 => ?_)
    · refine z_iconst C dX8_isSort_42 ?_
      refine z_goto C 47 dX8_isSort_43 (by decide) ?_
      exact z_retSi C hr hlocks (zNb (by first | omega | (split <;> omega))) (by first | rfl | (rw [if_pos (by omega)]) | (rw [if_neg (by omega)]) | omega) dX8_isSort_47
    · refine z_iload_n C hl 0 rfl dX8_isSort_12 ?_
      refine z_bipush C (by decide +kernel) dX8_isSort_13 ?_
      refine z_icmp_eq C 42 dX8_isSort_15 (by decide) ⟨by omega, by omega⟩ ⟨by omega, by omega⟩ (fun c_15 => ?_) (fun c_15 => ?_)
      · refine z_iconst C dX8_isSort_42 ?_
        refine z_goto C 47 dX8_isSort_43 (by decide) ?_
        exact z_retSi C hr hlocks (zNb (by first | omega | (split <;> omega))) (by first | rfl | (rw [if_pos (by omega)]) | (rw [if_neg (by omega)]) | omega) dX8_isSort_47
      · refine z_iload_n C hl 0 rfl dX8_isSort_18 ?_
        refine z_bipush C (by decide +kernel) dX8_isSort_19 ?_
        refine z_icmp_eq C 42 dX8_isSort_21 (by decide) ⟨by omega, by omega⟩ ⟨by omega, by omega⟩ (fun c_21 => ?_) (fun c_21 => ?_)
        · refine z_iconst C dX8_isSort_42 ?_
          refine z_goto C 47 dX8_isSort_43 (by decide) ?_
          exact z_retSi C hr hlocks (zNb (by first | omega | (split <;> omega))) (by first | rfl | (rw [if_pos (by omega)]) | (rw [if_neg (by omega)]) | omega) dX8_isSort_47
        · refine z_iload_n C hl 0 rfl dX8_isSort_24 ?_
          refine z_bipush C (by decide +kernel) dX8_isSort_25 ?_
          refine z_icmp_eq C 42 dX8_isSort_27 (by decide) ⟨by omega, by omega⟩ ⟨by omega, by omega⟩ (fun c_27 => ?_) (fun c_27 => ?_)
          · refine z_iconst C dX8_isSort_42 ?_
            refine z_goto C 47 dX8_isSort_43 (by decide) ?_
            exact z_retSi C hr hlocks (zNb (by first | omega | (split <;> omega))) (by first | rfl | (rw [if_pos (by omega)]) | (rw [if_neg (by omega)]) | omega) dX8_isSort_47
          · refine z_iload_n C hl 0 rfl dX8_isSort_30 ?_
            refine z_bipush C (by decide +kernel) dX8_isSort_31 ?_
            refine z_icmp_eq C 42 dX8_isSort_33 (by decide) ⟨by omega, by omega⟩ ⟨by omega, by omega⟩ (fun c_33 => ?_) (fun c_33 => ?_)
            · refine z_iconst C dX8_isSort_42 ?_
              refine z_goto C 47 dX8_isSort_43 (by decide) ?_
              exact z_retSi C hr hlocks (zNb (by first | omega | (split <;> omega))) (by first | rfl | (rw [if_pos (by omega)]) | (rw [if_neg (by omega)]) | omega) dX8_isSort_47
            · refine z_iload_n C hl 0 rfl dX8_isSort_36 ?_
              refine z_bipush C (by decide +kernel) dX8_isSort_37 ?_
              refine z_icmp_ne C 46 dX8_isSort_39 (by decide) ⟨by omega, by omega⟩ ⟨by omega, by omega⟩ (fun c_39 => ?_) (fun c_39 => ?_)
              · refine z_iconst C dX8_isSort_46 ?_
                exact z_retSi C hr hlocks (zNb (by first | omega | (split <;> omega))) (by first | rfl | (rw [if_pos (by omega)]) | (rw [if_neg (by omega)]) | omega) dX8_isSort_47
              · refine z_iconst C dX8_isSort_42 ?_
                refine z_goto C 47 dX8_isSort_43 (by decide) ?_
                exact z_retSi C hr hlocks (zNb (by first | omega | (split <;> omega))) (by first | rfl | (rw [if_pos (by omega)]) | (rw [if_neg (by omega)]) | omega) dX8_isSort_47

set_option maxRecDepth 20000 in
set_option maxHeartbeats 4000000 in
theorem c_X8_hard {l : Launch} {D : va_G} {Y : Nat → ClassId} {a : Int → Nat} (hI : zI a) (σ : zS) (ch : Int) (h1 : 0 ≤ ch ∧ ch ≤ 200) : zMet l yX8_hard cX8_hard 1 (some .int) 0 (zPc D Y a σ [.int (iI ch)]) (zSi (mHard (mSort ch))) zNo := by
  refine z_start rfl (Nat.le_of_ble_eq_true rfl) hI ?_
  intro p e s m below meth c ls C hr hlocks hl hP
  have hl : lv_has ls 1 [(0, .int (iI ch))] := hl
  refine z_iload_n C hl 0 rfl dX8_hard_0 ?_
  refine z_bipush C (by decide +kernel) dX8_hard_1 ?_
  refine z_icmp_ne C 11 dX8_hard_3 (by decide) ⟨by omega, by omega⟩ ⟨by omega, by omega⟩ (fun c_3 => ?_) (fun c_3 => ?_)
  · refine z_iload_n C hl 0 rfl dX8_hard_11 ?_
    refine z_bipush C (by decide +kernel) dX8_hard_12 ?_
    refine z_icmp_ne C 23 dX8_hard_14 (by decide) ⟨by omega, by omega⟩ ⟨by omega, by omega⟩ (fun c_14 => ?_) (fun c_14 => ?_)
    · refine z_iload_n C hl 0 rfl dX8_hard_23 ?_
      refine z_bipush C (by decide +kernel) dX8_hard_24 ?_
      refine z_icmp_ne C 34 dX8_hard_26 (by decide) ⟨by omega, by omega⟩ ⟨by omega, by omega⟩ (fun c_26 => ?_) (fun c_26 => ?_)
      · refine z_iload_n C hl 0 rfl dX8_hard_34 ?_
        refine z_bipush C (by decide +kernel) dX8_hard_35 ?_
        refine z_icmp_ne C 45 dX8_hard_37 (by decide) ⟨by omega, by omega⟩ ⟨by omega, by omega⟩ (fun c_37 => ?_) (fun c_37 => ?_)
        · refine z_bipush C (by decide +kernel) dX8_hard_45 ?_
          exact z_retSi C hr hlocks rfl (by (first | (simp [mHard, mSort, *]; done) | (unfold mHard mSort; repeat' split; all_goals omega))) dX8_hard_47
        · refine z_bipush C (by decide +kernel) dX8_hard_40 ?_
          refine z_goto C 47 dX8_hard_42 (by decide) ?_
          exact z_retSi C hr hlocks rfl (by (first | (simp [mHard, mSort, *]; done) | (unfold mHard mSort; repeat' split; all_goals omega))) dX8_hard_47
      · refine z_bipush C (by decide +kernel) dX8_hard_29 ?_
        refine z_goto C 47 dX8_hard_31 (by decide) ?_
        exact z_retSi C hr hlocks rfl (by (first | (simp [mHard, mSort, *]; done) | (unfold mHard mSort; repeat' split; all_goals omega))) dX8_hard_47
    · refine z_sipush C (by decide +kernel) dX8_hard_17 ?_
      refine z_goto C 47 dX8_hard_20 (by decide) ?_
      exact z_retSi C hr hlocks rfl (by (first | (simp [mHard, mSort, *]; done) | (unfold mHard mSort; repeat' split; all_goals omega))) dX8_hard_47
  · refine z_bipush C (by decide +kernel) dX8_hard_6 ?_
    refine z_goto C 47 dX8_hard_8 (by decide) ?_
    exact z_retSi C hr hlocks rfl (by (first | (simp [mHard, mSort, *]; done) | (unfold mHard mSort; repeat' split; all_goals omega))) dX8_hard_47

set_option maxRecDepth 20000 in
set_option maxHeartbeats 4000000 in
theorem c_X8_seconds {l : Launch} {D : va_G} {Y : Nat → ClassId} {a : Int → Nat} (hI : zI a) (σ : zS) (hard treads : Int) (h1 : 0 ≤ hard ∧ hard ≤ 240) (h2 : 0 ≤ treads ∧ treads ≤ 100000) : zMet l yX8_seconds cX8_seconds 2 (some .int) 0 (zPc D Y a σ [.int (iI hard), .int (iI treads)]) (zSi (mSec hard treads)) zNo := by
  refine z_start rfl (Nat.le_of_ble_eq_true rfl) hI ?_
  intro p e s m below meth c ls C hr hlocks hl hP
  have hl : lv_has ls 2 [(0, .int (iI hard)), (1, .int (iI treads))] := hl
  refine z_iload_n C hl 0 rfl dX8_seconds_0 ?_
  refine z_iconst C dX8_seconds_1 ?_
  refine z_iload_n C hl 1 rfl dX8_seconds_2 ?_
  refine z_iadd C dX8_seconds_3 ?_
  refine z_idiv C ⟨by omega, by omega, by omega, by omega⟩ dX8_seconds_4 ?_
  refine z_iconst C dX8_seconds_5 ?_
  refine z_iadd C dX8_seconds_6 ?_
  exact z_retSi C hr hlocks rfl (by unfold mSec; rw [Int.max_eq_right (by omega)]) dX8_seconds_7

set_option maxRecDepth 20000 in
set_option maxHeartbeats 4000000 in
theorem c_X8_heated {l : Launch} {D : va_G} {Y : Nat → ClassId} {a : Int → Nat} (hI : zI a) (σ : zS) (heat ch : Int) (h1 : 0 ≤ heat ∧ heat ≤ 100) (h2 : 0 ≤ ch ∧ ch ≤ 200) : zMet l yX8_heated cX8_heated 3 (some .int) 0 (zPc D Y a σ [.int (iI heat), .int (iI ch)]) (zSi (mHeat heat (mSort ch))) zNo := by
  refine z_start rfl (Nat.le_of_ble_eq_true rfl) hI ?_
  intro p e s m below meth c ls C hr hlocks hl hP
  have hl : lv_has ls 3 [(0, .int (iI heat)), (1, .int (iI ch))] := hl
  refine z_iload_n C hl 1 rfl dX8_heated_0 ?_
  refine z_bipush C (by decide +kernel) dX8_heated_1 ?_
  refine z_icmp_ne C 12 dX8_heated_3 (by decide) ⟨by omega, by omega⟩ ⟨by omega, by omega⟩ (fun c_3 => ?_) (fun c_3 => ?_)
  · refine z_iload_n C hl 1 rfl dX8_heated_12 ?_
    refine z_bipush C (by decide +kernel) dX8_heated_13 ?_
    refine z_icmp_ne C 24 dX8_heated_15 (by decide) ⟨by omega, by omega⟩ ⟨by omega, by omega⟩ (fun c_15 => ?_) (fun c_15 => ?_)
    · refine z_iload_n C hl 0 rfl dX8_heated_24 ?_
      refine z_iconst C dX8_heated_25 ?_
      refine z_isub C dX8_heated_26 ?_
      refine z_topi (fun x1 hx1 => ?_)
      refine z_istore_n C [1, 2, 0] [(0, .int (iI heat)), (1, .int (iI ch)), (2, .int (iI x1))] hl (by decide) rfl dX8_heated_27 (fun ls hl => ?_)
      refine z_iload_n C hl 2 rfl dX8_heated_28 ?_
      refine z_if_ge C 36 dX8_heated_29 (by decide) ⟨by omega, by omega⟩ (fun c_29 => ?_) (fun c_29 => ?_)
      · refine z_iload_n C hl 2 rfl dX8_heated_36 ?_
        exact z_retSi C hr hlocks rfl (by unfold mHeat mSort; repeat' split; all_goals omega) dX8_heated_37
      · refine z_iconst C dX8_heated_32 ?_
        refine z_goto C 37 dX8_heated_33 (by decide) ?_
        exact z_retSi C hr hlocks rfl (by unfold mHeat mSort; repeat' split; all_goals omega) dX8_heated_37
    · refine z_iload_n C hl 0 rfl dX8_heated_18 ?_
      refine z_iconst C dX8_heated_19 ?_
      refine z_iadd C dX8_heated_20 ?_
      refine z_goto C 27 dX8_heated_21 (by decide) ?_
      refine z_topi (fun x2 hx2 => ?_)
      refine z_istore_n C [1, 2, 0] [(0, .int (iI heat)), (1, .int (iI ch)), (2, .int (iI x2))] hl (by decide) rfl dX8_heated_27 (fun ls hl => ?_)
      refine z_iload_n C hl 2 rfl dX8_heated_28 ?_
      refine z_if_ge C 36 dX8_heated_29 (by decide) ⟨by omega, by omega⟩ (fun c_29 => ?_) (fun c_29 => ?_)
      · refine z_iload_n C hl 2 rfl dX8_heated_36 ?_
        exact z_retSi C hr hlocks rfl (by unfold mHeat mSort; repeat' split; all_goals omega) dX8_heated_37
      · refine z_iconst C dX8_heated_32 ?_
        refine z_goto C 37 dX8_heated_33 (by decide) ?_
        exact z_retSi C hr hlocks rfl (by unfold mHeat mSort; repeat' split; all_goals omega) dX8_heated_37
  · refine z_iload_n C hl 0 rfl dX8_heated_6 ?_
    refine z_iconst C dX8_heated_7 ?_
    refine z_iadd C dX8_heated_8 ?_
    refine z_goto C 27 dX8_heated_9 (by decide) ?_
    refine z_topi (fun x3 hx3 => ?_)
    refine z_istore_n C [1, 2, 0] [(0, .int (iI heat)), (1, .int (iI ch)), (2, .int (iI x3))] hl (by decide) rfl dX8_heated_27 (fun ls hl => ?_)
    refine z_iload_n C hl 2 rfl dX8_heated_28 ?_
    refine z_if_ge C 36 dX8_heated_29 (by decide) ⟨by omega, by omega⟩ (fun c_29 => ?_) (fun c_29 => ?_)
    · refine z_iload_n C hl 2 rfl dX8_heated_36 ?_
      exact z_retSi C hr hlocks rfl (by unfold mHeat mSort; repeat' split; all_goals omega) dX8_heated_37
    · refine z_iconst C dX8_heated_32 ?_
      refine z_goto C 37 dX8_heated_33 (by decide) ?_
      exact z_retSi C hr hlocks rfl (by unfold mHeat mSort; repeat' split; all_goals omega) dX8_heated_37

set_option maxRecDepth 20000 in
set_option maxHeartbeats 4000000 in
theorem c_X8_stateOf {l : Launch} {D : va_G} {Y : Nat → ClassId} {a : Int → Nat} (hI : zI a) (σ : zS) (x y heat : Int) : zMet l yX8_stateOf cX8_stateOf 3 (some .int) 0 (zPc D Y a σ [.int (iI x), .int (iI y), .int (iI heat)]) (zSi ((x * 10 + y) * 21 + heat)) zNo := by
  refine z_start rfl (Nat.le_of_ble_eq_true rfl) hI ?_
  intro p e s m below meth c ls C hr hlocks hl hP
  have hl : lv_has ls 3 [(0, .int (iI x)), (1, .int (iI y)), (2, .int (iI heat))] := hl
  refine z_iload_n C hl 0 rfl dX8_stateOf_0 ?_
  refine z_bipush C (by decide +kernel) dX8_stateOf_1 ?_
  refine z_imul C dX8_stateOf_3 ?_
  refine z_iload_n C hl 1 rfl dX8_stateOf_4 ?_
  refine z_iadd C dX8_stateOf_5 ?_
  refine z_bipush C (by decide +kernel) dX8_stateOf_6 ?_
  refine z_imul C dX8_stateOf_8 ?_
  refine z_iload_n C hl 2 rfl dX8_stateOf_9 ?_
  refine z_iadd C dX8_stateOf_10 ?_
  exact z_retSi C hr hlocks rfl (by rfl) dX8_stateOf_11

set_option maxRecDepth 20000 in
set_option maxHeartbeats 4000000 in
theorem c_X8_sortOf {l : Launch} {D : va_G} {Y : Nat → ClassId} {a : Int → Nat} (hI : zI a) (σ : zS) (i : Int) (h1 : 0 ≤ i ∧ i ≤ 4) : zMet l yX8_sortOf cX8_sortOf 1 (some .int) 0 (zPc D Y a σ [.int (iI i)]) (zSi (if i = 0 then 46 else if i = 1 then 117 else if i = 2 then 85 else if i = 3 then 100 else 68)) zNo := by
  refine z_start rfl (Nat.le_of_ble_eq_true rfl) hI ?_
  intro p e s m below meth c ls C hr hlocks hl hP
  have hl : lv_has ls 1 [(0, .int (iI i))] := hl
  refine z_iload_n C hl 0 rfl dX8_sortOf_0 ?_
  refine z_if_ne C 9 dX8_sortOf_1 (by decide) ⟨by omega, by omega⟩ (fun c_1 => ?_) (fun c_1 => ?_)
  · refine z_iload_n C hl 0 rfl dX8_sortOf_9 ?_
    refine z_iconst C dX8_sortOf_10 ?_
    refine z_icmp_ne C 19 dX8_sortOf_11 (by decide) ⟨by omega, by omega⟩ ⟨by omega, by omega⟩ (fun c_11 => ?_) (fun c_11 => ?_)
    · refine z_iload_n C hl 0 rfl dX8_sortOf_19 ?_
      refine z_iconst C dX8_sortOf_20 ?_
      refine z_icmp_ne C 29 dX8_sortOf_21 (by decide) ⟨by omega, by omega⟩ ⟨by omega, by omega⟩ (fun c_21 => ?_) (fun c_21 => ?_)
      · refine z_iload_n C hl 0 rfl dX8_sortOf_29 ?_
        refine z_iconst C dX8_sortOf_30 ?_
        refine z_icmp_ne C 39 dX8_sortOf_31 (by decide) ⟨by omega, by omega⟩ ⟨by omega, by omega⟩ (fun c_31 => ?_) (fun c_31 => ?_)
        · refine z_bipush C (by decide +kernel) dX8_sortOf_39 ?_
          exact z_retSi C hr hlocks rfl (by (first | rfl | (simp [*]; done) | (repeat' split) <;> omega)) dX8_sortOf_41
        · refine z_bipush C (by decide +kernel) dX8_sortOf_34 ?_
          refine z_goto C 41 dX8_sortOf_36 (by decide) ?_
          exact z_retSi C hr hlocks rfl (by (first | rfl | (simp [*]; done) | (repeat' split) <;> omega)) dX8_sortOf_41
      · refine z_bipush C (by decide +kernel) dX8_sortOf_24 ?_
        refine z_goto C 41 dX8_sortOf_26 (by decide) ?_
        exact z_retSi C hr hlocks rfl (by (first | rfl | (simp [*]; done) | (repeat' split) <;> omega)) dX8_sortOf_41
    · refine z_bipush C (by decide +kernel) dX8_sortOf_14 ?_
      refine z_goto C 41 dX8_sortOf_16 (by decide) ?_
      exact z_retSi C hr hlocks rfl (by (first | rfl | (simp [*]; done) | (repeat' split) <;> omega)) dX8_sortOf_41
  · refine z_bipush C (by decide +kernel) dX8_sortOf_4 ?_
    refine z_goto C 41 dX8_sortOf_6 (by decide) ?_
    exact z_retSi C hr hlocks rfl (by (first | rfl | (simp [*]; done) | (repeat' split) <;> omega)) dX8_sortOf_41

set_option maxRecDepth 20000 in
set_option maxHeartbeats 4000000 in
theorem c_X8_fromSix {l : Launch} {D : va_G} {Y : Nat → ClassId} {a : Int → Nat} (hI : zI a) (σ : zS) (k : Int) (h1 : 0 ≤ k ∧ k ≤ 12) : zMet l yX8_fromSix cX8_fromSix 1 (some .int) 0 (zPc D Y a σ [.int (iI k)]) (zSi (mCrank k)) zNo := by
  refine z_start rfl (Nat.le_of_ble_eq_true rfl) hI ?_
  intro p e s m below meth c ls C hr hlocks hl hP
  have hl : lv_has ls 1 [(0, .int (iI k))] := hl
  refine z_bipush C (by decide +kernel) dX8_fromSix_0 ?_
  refine z_iload_n C hl 0 rfl dX8_fromSix_2 ?_
  refine z_bipush C (by decide +kernel) dX8_fromSix_3 ?_
  refine z_icmp_ge C 15 dX8_fromSix_5 (by decide) ⟨by omega, by omega⟩ ⟨by omega, by omega⟩ (fun c_5 => ?_) (fun c_5 => ?_)
  · refine z_iload_n C hl 0 rfl dX8_fromSix_15 ?_
    refine z_bipush C (by decide +kernel) dX8_fromSix_16 ?_
    refine z_isub C dX8_fromSix_18 ?_
    refine z_isub C dX8_fromSix_19 ?_
    exact z_retSi C hr hlocks rfl (by unfold mCrank mAbs; repeat' split; all_goals omega) dX8_fromSix_20
  · refine z_bipush C (by decide +kernel) dX8_fromSix_8 ?_
    refine z_iload_n C hl 0 rfl dX8_fromSix_10 ?_
    refine z_isub C dX8_fromSix_11 ?_
    refine z_goto C 19 dX8_fromSix_12 (by decide) ?_
    refine z_isub C dX8_fromSix_19 ?_
    exact z_retSi C hr hlocks rfl (by unfold mCrank mAbs; repeat' split; all_goals omega) dX8_fromSix_20
