def zCpy (σ : zS) (k0 k1 n : Int) : zS := fun k j => if k = k1 ∧ 0 ≤ j ∧ j < n then σ k0 j else σ k j
theorem zCpy_c {σ : zS} {k0 k1 n k : Int} (h : k ≠ k1) : zCpy σ k0 k1 n k = σ k := by
  funext j
  unfold zCpy
  rw [if_neg (fun z => h z.1)]
section ZCOPY
variable {p : Program} {l : Launch} {e : Env} {R : Room} {s : State} {m : MethodId} {args : Array Value} {below : List Frame} {meth : Method} {c : Code} {H : Heap} {locs : List Loc} {cells slots : Nat} {Q : State → Prop} {cc : ByteArray} {pc : Nat} {ls : Array Slot} {rest : List Value} {own : String} {nL : Nat} {D : va_G} {Y : Nat → ClassId} {a : Int → Nat}
theorem z_acopy (C : Cx p s m args c cc own nL D Y a) {σ : zS} {H0 : Heap} (hP : GP D Y a σ H) (hS : va_S (inA a) H0 H locs) {k0 k1 : Int} {n0 n1 : Nat} (hA0 : zIA Y a k0 n0) (hA1 : zIA Y a k1 n1) {n : Int} (hn : 0 ≤ n ∧ n ≤ n0 ∧ n ≤ n1) {ix : Nat} (hw : Cond.methodLink own ix arraycopyName ∈ wsL_law) (hl : ls.size = nL) (hR : 1 ≤ R.frames ∧ (rest.map fun v => v.category).sum + (nativeFrameWords "java/lang/System" "arraycopy" 5 + 11) ≤ R.locals) (hdg : decode cc pc = .ok (.invokestatic ix, 3)) (k : ∀ (H1 : Heap) (locs1 : List Loc), GP D Y a (zCpy σ k0 k1 n) H1 → va_S (inA a) H0 H1 locs1 → W p l e R s m args below meth c H1 locs1 cells slots Q (F0 m (pc + 3) ls rest)) : W p l e R s m args below meth c H locs cells slots Q (F0 m pc ls (.int (iI n) :: .int (iI 0) :: .ref (a k1) :: .int (iI 0) :: .ref (a k0) :: rest)) := by
  obtain ⟨q0, hq0, hw0⟩ := zW_at (Y := Y) (a := a) (σ := σ) hA0.1
  obtain ⟨q1, hq1, hw1⟩ := zW_at (Y := Y) (a := a) (σ := σ) hA1.1
  rw [hA0.2.2] at hw0
  rw [hA1.2.2] at hw1
  have e0 : (iI 0).toNatClampNeg = 0 := iI_cl (by omega) (by omega)
  have hb0 := hA0.2.1
  have en : (iI n).toNatClampNeg = n.toNat := iI_cl hn.1 (by omega)
  have z0 : ¬ iI 0 < 0 := by decide +kernel
  have zn : ¬ iI n < 0 := fun z => by
    have h1 : iI n < iI 0 := z
    rw [iI_lt ⟨by omega, by omega⟩ ⟨by omega, by omega⟩] at h1
    omega
  refine va_copyi C.1 C.2.1 (by rw [C.2.2.1, hl]) C.2.2.2.1 (C.2.2.2.2.1 _ hw) (C.2.2.2.2.1 _ wd_857) (C.2.2.2.2.1 _ wd_858) (C.2.2.2.2.1 _ wd_859) C.2.2.2.2.2.1 hP (zD C.2.2.2.2.2.2.1 σ) hS q0 q1 0 0 hw0 hw1 rfl rfl rfl z0 z0 zn (by rw [e0, en]; omega) (by rw [e0, en]; omega) (fun i hi => rfl) hR.1 hR.2 hdg (fun H1 locs1 h1 _ h3 => ?_)
  refine k H1 locs1 ?_ h3
  unfold GP
  rw [← zW_set (σ' := zCpy σ k0 k1 n) hq1 (hA1.2.2 _) (fun j hj => zCpy_c hj)]
  rw [e0, en] at h1
  have ef : va_cpy (fun j : Nat => iI (σ k0 (j : Int))) (fun j : Nat => iI (σ k1 (j : Int))) 0 0 n.toNat = fun j : Nat => iI (zCpy σ k0 k1 n k1 (j : Int)) := by
    funext j
    unfold va_cpy zCpy
    by_cases hj : j < n.toNat
    · rw [if_pos ⟨Nat.zero_le _, by omega⟩, if_pos ⟨rfl, by omega, by omega⟩]
      rw [Nat.zero_add, Nat.sub_zero]
    · rw [if_neg (by omega), if_neg (by omega)]
  rw [ef] at h1
  exact h1
end ZCOPY
def mRcp (σ : zS) (d s : Int) : zS := zU (zU (zU (zU (zU σ d 0 (σ s 0)) d 1 (σ s 1)) d 2 (σ s 2)) d 3 (σ s 3)) d 4 (σ s 4)
theorem mRcp_c {σ : zS} {d s k : Int} (h : k ≠ d) : mRcp σ d s k = σ k := by
  unfold mRcp
  rw [zU_cell h, zU_cell h, zU_cell h, zU_cell h, zU_cell h]

set_option maxRecDepth 20000 in
set_option maxHeartbeats 4000000 in
theorem c_X4_copyFrom {l : Launch} {D : va_G} {Y : Nat → ClassId} {a : Int → Nat} (hI : zI a) (σ : zS) (d s0 : Int) (hd : zRid d) (hs : zRid s0) (hne : s0 ≠ d) (h0 : σ s0 0 = 0 ∨ σ s0 0 = 1) : zMet l yX4_copyFrom cX4_copyFrom 2 none 0 (zPc D Y a σ [.ref (a d), .ref (a s0)]) (zQv D Y a (fun τ => τ = mRcp σ d s0)) (inA a) := by
  refine z_start rfl (Nat.le_of_ble_eq_true rfl) hI ?_
  intro p e s m below meth c ls C hr hlocks hl hP
  have hS : va_S (inA a) s.heap s.heap [] := va_S.rf
  have hl : lv_has ls 2 [(0, .ref (a d)), (1, .ref (a s0))] := hl
  skip
  refine z_aload_n C hl 0 rfl dX4_copyFrom_0 ?_
  refine z_aload_n C hl 1 rfl dX4_copyFrom_1 ?_
  refine zg_X4_7 C hP (by first | exact hd | exact hs) dX4_copyFrom_2 ?_
  refine zp_X4_7 C hP hS (by first | exact hd | exact hs) h0 dX4_copyFrom_5 (fun H locs hP hS => ?_)
  obtain ⟨t1, et1⟩ : ∃ z : zS, z = zU σ d 0 (σ s0 0) := ⟨_, rfl⟩
  rw [← et1] at hP
  refine z_aload_n C hl 0 rfl dX4_copyFrom_8 ?_
  refine z_aload_n C hl 1 rfl dX4_copyFrom_9 ?_
  refine zg_X4_13 C hP (by first | exact hd | exact hs) dX4_copyFrom_10 ?_
  rw [show t1 s0 1 = σ s0 1 from by rw [et1, zU_cell (by omega)]]
  refine zp_X4_13 C hP hS (by first | exact hd | exact hs) dX4_copyFrom_13 (fun H locs hP hS => ?_)
  obtain ⟨t2, et2⟩ : ∃ z : zS, z = zU t1 d 1 (σ s0 1) := ⟨_, rfl⟩
  rw [← et2] at hP
  refine z_aload_n C hl 0 rfl dX4_copyFrom_16 ?_
  refine z_aload_n C hl 1 rfl dX4_copyFrom_17 ?_
  refine zg_X4_17 C hP (by first | exact hd | exact hs) dX4_copyFrom_18 ?_
  rw [show t2 s0 2 = σ s0 2 from by rw [et2, zU_cell (by omega), et1, zU_cell (by omega)]]
  refine zp_X4_17 C hP hS (by first | exact hd | exact hs) dX4_copyFrom_21 (fun H locs hP hS => ?_)
  obtain ⟨t3, et3⟩ : ∃ z : zS, z = zU t2 d 2 (σ s0 2) := ⟨_, rfl⟩
  rw [← et3] at hP
  refine z_aload_n C hl 0 rfl dX4_copyFrom_24 ?_
  refine z_aload_n C hl 1 rfl dX4_copyFrom_25 ?_
  refine zg_X4_20 C hP (by first | exact hd | exact hs) dX4_copyFrom_26 ?_
  rw [show t3 s0 3 = σ s0 3 from by rw [et3, zU_cell (by omega), et2, zU_cell (by omega), et1, zU_cell (by omega)]]
  refine zp_X4_20 C hP hS (by first | exact hd | exact hs) dX4_copyFrom_29 (fun H locs hP hS => ?_)
  obtain ⟨t4, et4⟩ : ∃ z : zS, z = zU t3 d 3 (σ s0 3) := ⟨_, rfl⟩
  rw [← et4] at hP
  refine z_aload_n C hl 0 rfl dX4_copyFrom_32 ?_
  refine z_aload_n C hl 1 rfl dX4_copyFrom_33 ?_
  refine zg_X4_23 C hP (by first | exact hd | exact hs) dX4_copyFrom_34 ?_
  rw [show t4 s0 4 = σ s0 4 from by rw [et4, zU_cell (by omega), et3, zU_cell (by omega), et2, zU_cell (by omega), et1, zU_cell (by omega)]]
  refine zp_X4_23 C hP hS (by first | exact hd | exact hs) dX4_copyFrom_37 (fun H locs hP hS => ?_)
  obtain ⟨t5, et5⟩ : ∃ z : zS, z = zU t4 d 4 (σ s0 4) := ⟨_, rfl⟩
  rw [← et5] at hP
  exact z_retQv C hP hS hr hlocks (by subst_vars; rfl) dX4_copyFrom_40

set_option maxRecDepth 20000 in
set_option maxHeartbeats 4000000 in
theorem c_X6_copyFrom_48_32 {l : Launch} {D : va_G} {Y : Nat → ClassId} {a : Int → Nat} (hI : zI a) (σ : zS)  (h01 : ∀ k : Int, 40 ≤ k → k ≤ 43 → σ k 0 = 0 ∨ σ k 0 = 1) : zMet l yX6_copyFrom cX6_copyFrom 3 none 1 (zPc D Y a σ [.ref (a 48), .ref (a 32)]) (zQv D Y a (fun τ => (∀ k : Int, (k < 48 ∨ 59 < k) → τ k = σ k) ∧ (∀ j : Int, 7 ≤ j → j ≤ 13 → τ 48 j = σ 32 j) ∧ (∀ j : Int, 0 ≤ j → j < 24 → τ 50 j = σ 34 j) ∧ (∀ j : Int, 0 ≤ j → j < 24 → τ 51 j = σ 35 j) ∧ (∀ j : Int, 0 ≤ j → j < 6 → τ 52 j = σ 36 j) ∧ (∀ j : Int, 0 ≤ j → j < 6 → τ 53 j = σ 37 j) ∧ (∀ j : Int, 0 ≤ j → j < 6 → τ 54 j = σ 38 j) ∧ (∀ j : Int, 0 ≤ j → j < 6 → τ 55 j = σ 39 j) ∧ (∀ j : Int, 0 ≤ j → j ≤ 4 → τ 56 j = σ 40 j) ∧ (∀ j : Int, 0 ≤ j → j ≤ 4 → τ 57 j = σ 41 j) ∧ (∀ j : Int, 0 ≤ j → j ≤ 4 → τ 58 j = σ 42 j) ∧ (∀ j : Int, 0 ≤ j → j ≤ 4 → τ 59 j = σ 43 j))) (inA a) := by
  refine z_start rfl (Nat.le_of_ble_eq_true rfl) hI ?_
  intro p e s m below meth c ls C hr hlocks hl hP
  have hS : va_S (inA a) s.heap s.heap [] := va_S.rf
  have hl : lv_has ls 3 [(0, .ref (a 48)), (1, .ref (a 32))] := hl
  skip
  refine z_iconst C dX6_copyFrom_0 ?_
  refine z_istore_n C [1, 2, 0] [(0, .ref (a 48)), (1, .ref (a 32)), (2, .int (iI 0))] hl (by decide) rfl dX6_copyFrom_1 (fun ls hl => ?_)
  refine z_iload_n C hl 2 rfl dX6_copyFrom_2 ?_
  refine z_iconst C dX6_copyFrom_3 ?_
  refine z_icmpF_ge C 28 dX6_copyFrom_4 (by decide) ⟨by decide, by decide⟩ ⟨by decide, by decide⟩ (by decide) ?_
  refine z_aload_n C hl 0 rfl dX6_copyFrom_7 ?_
  refine zg_X6_11 C hP (by unfold zSet; omega) dX6_copyFrom_8 ?_
  rw [show (48 : Int) + 1 = 49 from rfl]
  refine z_iload_n C hl 2 rfl dX6_copyFrom_11 ?_
  refine z_aldR C hP (by omega) ⟨by omega, by omega⟩ dX6_copyFrom_12 ?_
  rw [show (49 : Int) + 7 + 0 = 56 from rfl]
  refine z_aload_n C hl 1 rfl dX6_copyFrom_13 ?_
  refine zg32_X6_11 C hP dX6_copyFrom_14 ?_
  refine z_iload_n C hl 2 rfl dX6_copyFrom_17 ?_
  refine z_aldR32 C hP ⟨by omega, by omega⟩ dX6_copyFrom_18 ?_
  rw [show (40 : Int) + 0 = 40 from rfl]
  refine z_vQv hS C hP (As := [.ref (a 40)]) lk_X6_59 (c_X4_copyFrom hI σ 56 40 (by unfold zRid; omega) (by unfold zRid; omega) (by omega) (by first | exact h01 _ (by omega) (by omega) | (rw [gsσ _ (by omega) (by omega)]; exact h01 _ (by omega) (by omega)))) (ob_rid (by unfold zRid; omega)) rfl rfl rfl hl.1 rfl (Nat.le_of_ble_eq_true rfl) ⟨Nat.le_of_ble_eq_true rfl, Nat.le_of_ble_eq_true rfl⟩ ⟨Nat.zero_le _, Nat.zero_le _⟩ dX6_copyFrom_19 (fun t2 H locs hp19 hP hS => ?_)
  have gst2 : ∀ k : Int, 40 ≤ k → k ≤ 43 → t2 k = σ k := fun k h1 h2 => by first | (rw [hp19, mRcp_c (by omega)]; done) | (rw [hp19, mRcp_c (by omega)]; exact gsσ k h1 h2)
  refine z_iinc C 2 [1, 2, 0] [(0, .ref (a 48)), (1, .ref (a 32)), (2, .int (iI 1))] hl rfl (by decide) rfl dX6_copyFrom_22 (fun ls hl => ?_)
  refine z_goto C 2 dX6_copyFrom_25 (by decide) ?_
  refine z_iload_n C hl 2 rfl dX6_copyFrom_2 ?_
  refine z_iconst C dX6_copyFrom_3 ?_
  refine z_icmpF_ge C 28 dX6_copyFrom_4 (by decide) ⟨by decide, by decide⟩ ⟨by decide, by decide⟩ (by decide) ?_
  refine z_aload_n C hl 0 rfl dX6_copyFrom_7 ?_
  refine zg_X6_11 C hP (by unfold zSet; omega) dX6_copyFrom_8 ?_
  rw [show (48 : Int) + 1 = 49 from rfl]
  refine z_iload_n C hl 2 rfl dX6_copyFrom_11 ?_
  refine z_aldR C hP (by omega) ⟨by omega, by omega⟩ dX6_copyFrom_12 ?_
  rw [show (49 : Int) + 7 + 1 = 57 from rfl]
  refine z_aload_n C hl 1 rfl dX6_copyFrom_13 ?_
  refine zg32_X6_11 C hP dX6_copyFrom_14 ?_
  refine z_iload_n C hl 2 rfl dX6_copyFrom_17 ?_
  refine z_aldR32 C hP ⟨by omega, by omega⟩ dX6_copyFrom_18 ?_
  rw [show (40 : Int) + 1 = 41 from rfl]
  refine z_vQv hS C hP (As := [.ref (a 41)]) lk_X6_59 (c_X4_copyFrom hI t2 57 41 (by unfold zRid; omega) (by unfold zRid; omega) (by omega) (by first | exact h01 _ (by omega) (by omega) | (rw [gst2 _ (by omega) (by omega)]; exact h01 _ (by omega) (by omega)))) (ob_rid (by unfold zRid; omega)) rfl rfl rfl hl.1 rfl (Nat.le_of_ble_eq_true rfl) ⟨Nat.le_of_ble_eq_true rfl, Nat.le_of_ble_eq_true rfl⟩ ⟨Nat.zero_le _, Nat.zero_le _⟩ dX6_copyFrom_19 (fun t4 H locs hp19 hP hS => ?_)
  have gst4 : ∀ k : Int, 40 ≤ k → k ≤ 43 → t4 k = σ k := fun k h1 h2 => by first | (rw [hp19, mRcp_c (by omega)]; done) | (rw [hp19, mRcp_c (by omega)]; exact gst2 k h1 h2)
  refine z_iinc C 2 [1, 2, 0] [(0, .ref (a 48)), (1, .ref (a 32)), (2, .int (iI 2))] hl rfl (by decide) rfl dX6_copyFrom_22 (fun ls hl => ?_)
  refine z_goto C 2 dX6_copyFrom_25 (by decide) ?_
  refine z_iload_n C hl 2 rfl dX6_copyFrom_2 ?_
  refine z_iconst C dX6_copyFrom_3 ?_
  refine z_icmpF_ge C 28 dX6_copyFrom_4 (by decide) ⟨by decide, by decide⟩ ⟨by decide, by decide⟩ (by decide) ?_
  refine z_aload_n C hl 0 rfl dX6_copyFrom_7 ?_
  refine zg_X6_11 C hP (by unfold zSet; omega) dX6_copyFrom_8 ?_
  rw [show (48 : Int) + 1 = 49 from rfl]
  refine z_iload_n C hl 2 rfl dX6_copyFrom_11 ?_
  refine z_aldR C hP (by omega) ⟨by omega, by omega⟩ dX6_copyFrom_12 ?_
  rw [show (49 : Int) + 7 + 2 = 58 from rfl]
  refine z_aload_n C hl 1 rfl dX6_copyFrom_13 ?_
  refine zg32_X6_11 C hP dX6_copyFrom_14 ?_
  refine z_iload_n C hl 2 rfl dX6_copyFrom_17 ?_
  refine z_aldR32 C hP ⟨by omega, by omega⟩ dX6_copyFrom_18 ?_
  rw [show (40 : Int) + 2 = 42 from rfl]
  refine z_vQv hS C hP (As := [.ref (a 42)]) lk_X6_59 (c_X4_copyFrom hI t4 58 42 (by unfold zRid; omega) (by unfold zRid; omega) (by omega) (by first | exact h01 _ (by omega) (by omega) | (rw [gst4 _ (by omega) (by omega)]; exact h01 _ (by omega) (by omega)))) (ob_rid (by unfold zRid; omega)) rfl rfl rfl hl.1 rfl (Nat.le_of_ble_eq_true rfl) ⟨Nat.le_of_ble_eq_true rfl, Nat.le_of_ble_eq_true rfl⟩ ⟨Nat.zero_le _, Nat.zero_le _⟩ dX6_copyFrom_19 (fun t6 H locs hp19 hP hS => ?_)
  have gst6 : ∀ k : Int, 40 ≤ k → k ≤ 43 → t6 k = σ k := fun k h1 h2 => by first | (rw [hp19, mRcp_c (by omega)]; done) | (rw [hp19, mRcp_c (by omega)]; exact gst4 k h1 h2)
  refine z_iinc C 2 [1, 2, 0] [(0, .ref (a 48)), (1, .ref (a 32)), (2, .int (iI 3))] hl rfl (by decide) rfl dX6_copyFrom_22 (fun ls hl => ?_)
  refine z_goto C 2 dX6_copyFrom_25 (by decide) ?_
  refine z_iload_n C hl 2 rfl dX6_copyFrom_2 ?_
  refine z_iconst C dX6_copyFrom_3 ?_
  refine z_icmpF_ge C 28 dX6_copyFrom_4 (by decide) ⟨by decide, by decide⟩ ⟨by decide, by decide⟩ (by decide) ?_
  refine z_aload_n C hl 0 rfl dX6_copyFrom_7 ?_
  refine zg_X6_11 C hP (by unfold zSet; omega) dX6_copyFrom_8 ?_
  rw [show (48 : Int) + 1 = 49 from rfl]
  refine z_iload_n C hl 2 rfl dX6_copyFrom_11 ?_
  refine z_aldR C hP (by omega) ⟨by omega, by omega⟩ dX6_copyFrom_12 ?_
  rw [show (49 : Int) + 7 + 3 = 59 from rfl]
  refine z_aload_n C hl 1 rfl dX6_copyFrom_13 ?_
  refine zg32_X6_11 C hP dX6_copyFrom_14 ?_
  refine z_iload_n C hl 2 rfl dX6_copyFrom_17 ?_
  refine z_aldR32 C hP ⟨by omega, by omega⟩ dX6_copyFrom_18 ?_
  rw [show (40 : Int) + 3 = 43 from rfl]
  refine z_vQv hS C hP (As := [.ref (a 43)]) lk_X6_59 (c_X4_copyFrom hI t6 59 43 (by unfold zRid; omega) (by unfold zRid; omega) (by omega) (by first | exact h01 _ (by omega) (by omega) | (rw [gst6 _ (by omega) (by omega)]; exact h01 _ (by omega) (by omega)))) (ob_rid (by unfold zRid; omega)) rfl rfl rfl hl.1 rfl (Nat.le_of_ble_eq_true rfl) ⟨Nat.le_of_ble_eq_true rfl, Nat.le_of_ble_eq_true rfl⟩ ⟨Nat.zero_le _, Nat.zero_le _⟩ dX6_copyFrom_19 (fun t8 H locs hp19 hP hS => ?_)
  have gst8 : ∀ k : Int, 40 ≤ k → k ≤ 43 → t8 k = σ k := fun k h1 h2 => by first | (rw [hp19, mRcp_c (by omega)]; done) | (rw [hp19, mRcp_c (by omega)]; exact gst6 k h1 h2)
  refine z_iinc C 2 [1, 2, 0] [(0, .ref (a 48)), (1, .ref (a 32)), (2, .int (iI 4))] hl rfl (by decide) rfl dX6_copyFrom_22 (fun ls hl => ?_)
  refine z_goto C 2 dX6_copyFrom_25 (by decide) ?_
  refine z_iload_n C hl 2 rfl dX6_copyFrom_2 ?_
  refine z_iconst C dX6_copyFrom_3 ?_
  refine z_icmpT_ge C 28 dX6_copyFrom_4 (by decide) ⟨by decide, by decide⟩ ⟨by decide, by decide⟩ (by decide) ?_
  refine z_aload_n C hl 1 rfl dX6_copyFrom_28 ?_
  refine zg32_X6_17 C hP dX6_copyFrom_29 ?_
  refine z_iconst C dX6_copyFrom_32 ?_
  refine z_aload_n C hl 0 rfl dX6_copyFrom_33 ?_
  refine zg_X6_17 C hP (by unfold zSet; omega) dX6_copyFrom_34 ?_
  rw [show (48 : Int) + 2 = 50 from rfl]
  refine z_iconst C dX6_copyFrom_37 ?_
  refine z_bipush C (by decide +kernel) dX6_copyFrom_38 ?_
  refine z_acopy C hP hS ia_34 ia_50 (n := 24) ⟨by decide, by decide, by decide⟩ wd_856 hl.1 ⟨(Nat.le_of_ble_eq_true rfl), (Nat.le_of_ble_eq_true rfl)⟩ dX6_copyFrom_40 (fun H locs hP hS => ?_)
  obtain ⟨t9, et9⟩ : ∃ z : zS, z = zCpy t8 34 50 24 := ⟨_, rfl⟩
  rw [← et9] at hP
  refine z_aload_n C hl 1 rfl dX6_copyFrom_43 ?_
  refine zg32_X6_21 C hP dX6_copyFrom_44 ?_
  refine z_iconst C dX6_copyFrom_47 ?_
  refine z_aload_n C hl 0 rfl dX6_copyFrom_48 ?_
  refine zg_X6_21 C hP (by unfold zSet; omega) dX6_copyFrom_49 ?_
  rw [show (48 : Int) + 3 = 51 from rfl]
  refine z_iconst C dX6_copyFrom_52 ?_
  refine z_bipush C (by decide +kernel) dX6_copyFrom_53 ?_
  refine z_acopy C hP hS ia_35 ia_51 (n := 24) ⟨by decide, by decide, by decide⟩ wd_856 hl.1 ⟨(Nat.le_of_ble_eq_true rfl), (Nat.le_of_ble_eq_true rfl)⟩ dX6_copyFrom_55 (fun H locs hP hS => ?_)
  obtain ⟨t10, et10⟩ : ∃ z : zS, z = zCpy t9 35 51 24 := ⟨_, rfl⟩
  rw [← et10] at hP
  refine z_aload_n C hl 1 rfl dX6_copyFrom_58 ?_
  refine zg32_X6_24 C hP dX6_copyFrom_59 ?_
  refine z_iconst C dX6_copyFrom_62 ?_
  refine z_aload_n C hl 0 rfl dX6_copyFrom_63 ?_
  refine zg_X6_24 C hP (by unfold zSet; omega) dX6_copyFrom_64 ?_
  rw [show (48 : Int) + 4 = 52 from rfl]
  refine z_iconst C dX6_copyFrom_67 ?_
  refine z_bipush C (by decide +kernel) dX6_copyFrom_68 ?_
  refine z_acopy C hP hS ia_36 ia_52 (n := 6) ⟨by decide, by decide, by decide⟩ wd_856 hl.1 ⟨(Nat.le_of_ble_eq_true rfl), (Nat.le_of_ble_eq_true rfl)⟩ dX6_copyFrom_70 (fun H locs hP hS => ?_)
  obtain ⟨t11, et11⟩ : ∃ z : zS, z = zCpy t10 36 52 6 := ⟨_, rfl⟩
  rw [← et11] at hP
  refine z_aload_n C hl 1 rfl dX6_copyFrom_73 ?_
  refine zg32_X6_27 C hP dX6_copyFrom_74 ?_
  refine z_iconst C dX6_copyFrom_77 ?_
  refine z_aload_n C hl 0 rfl dX6_copyFrom_78 ?_
  refine zg_X6_27 C hP (by unfold zSet; omega) dX6_copyFrom_79 ?_
  rw [show (48 : Int) + 5 = 53 from rfl]
  refine z_iconst C dX6_copyFrom_82 ?_
  refine z_bipush C (by decide +kernel) dX6_copyFrom_83 ?_
  refine z_acopy C hP hS ia_37 ia_53 (n := 6) ⟨by decide, by decide, by decide⟩ wd_856 hl.1 ⟨(Nat.le_of_ble_eq_true rfl), (Nat.le_of_ble_eq_true rfl)⟩ dX6_copyFrom_85 (fun H locs hP hS => ?_)
  obtain ⟨t12, et12⟩ : ∃ z : zS, z = zCpy t11 37 53 6 := ⟨_, rfl⟩
  rw [← et12] at hP
  refine z_aload_n C hl 1 rfl dX6_copyFrom_88 ?_
  refine zg32_X6_30 C hP dX6_copyFrom_89 ?_
  refine z_iconst C dX6_copyFrom_92 ?_
  refine z_aload_n C hl 0 rfl dX6_copyFrom_93 ?_
  refine zg_X6_30 C hP (by unfold zSet; omega) dX6_copyFrom_94 ?_
  rw [show (48 : Int) + 6 = 54 from rfl]
  refine z_iconst C dX6_copyFrom_97 ?_
  refine z_bipush C (by decide +kernel) dX6_copyFrom_98 ?_
  refine z_acopy C hP hS ia_38 ia_54 (n := 6) ⟨by decide, by decide, by decide⟩ wd_856 hl.1 ⟨(Nat.le_of_ble_eq_true rfl), (Nat.le_of_ble_eq_true rfl)⟩ dX6_copyFrom_100 (fun H locs hP hS => ?_)
  obtain ⟨t13, et13⟩ : ∃ z : zS, z = zCpy t12 38 54 6 := ⟨_, rfl⟩
  rw [← et13] at hP
  refine z_aload_n C hl 1 rfl dX6_copyFrom_103 ?_
  refine zg32_X6_33 C hP dX6_copyFrom_104 ?_
  refine z_iconst C dX6_copyFrom_107 ?_
  refine z_aload_n C hl 0 rfl dX6_copyFrom_108 ?_
  refine zg_X6_33 C hP (by unfold zSet; omega) dX6_copyFrom_109 ?_
  rw [show (48 : Int) + 7 = 55 from rfl]
  refine z_iconst C dX6_copyFrom_112 ?_
  refine z_bipush C (by decide +kernel) dX6_copyFrom_113 ?_
  refine z_acopy C hP hS ia_39 ia_55 (n := 6) ⟨by decide, by decide, by decide⟩ wd_856 hl.1 ⟨(Nat.le_of_ble_eq_true rfl), (Nat.le_of_ble_eq_true rfl)⟩ dX6_copyFrom_115 (fun H locs hP hS => ?_)
  obtain ⟨t14, et14⟩ : ∃ z : zS, z = zCpy t13 39 55 6 := ⟨_, rfl⟩
  rw [← et14] at hP
  refine z_aload_n C hl 0 rfl dX6_copyFrom_118 ?_
  refine z_aload_n C hl 1 rfl dX6_copyFrom_119 ?_
  refine zg32_X6_36 C hP dX6_copyFrom_120 ?_
  refine zp_X6_36 C hP hS (by unfold zSet; omega) dX6_copyFrom_123 (fun H locs hP hS => ?_)
  obtain ⟨t15, et15⟩ : ∃ z : zS, z = zU t14 48 7 (t14 32 7) := ⟨_, rfl⟩
  rw [← et15] at hP
  refine z_aload_n C hl 0 rfl dX6_copyFrom_126 ?_
  refine z_aload_n C hl 1 rfl dX6_copyFrom_127 ?_
  refine zg32_X6_40 C hP dX6_copyFrom_128 ?_
  rw [show t15 32 8 = t14 32 8 from by rw [et15, zU_cell (by decide)]]
  refine zp_X6_40 C hP hS (by unfold zSet; omega) dX6_copyFrom_131 (fun H locs hP hS => ?_)
  obtain ⟨t16, et16⟩ : ∃ z : zS, z = zU t15 48 8 (t14 32 8) := ⟨_, rfl⟩
  rw [← et16] at hP
  refine z_aload_n C hl 0 rfl dX6_copyFrom_134 ?_
  refine z_aload_n C hl 1 rfl dX6_copyFrom_135 ?_
  refine zg32_X6_43 C hP dX6_copyFrom_136 ?_
  rw [show t16 32 9 = t14 32 9 from by rw [et16, zU_cell (by decide), et15, zU_cell (by decide)]]
  refine zp_X6_43 C hP hS (by unfold zSet; omega) dX6_copyFrom_139 (fun H locs hP hS => ?_)
  obtain ⟨t17, et17⟩ : ∃ z : zS, z = zU t16 48 9 (t14 32 9) := ⟨_, rfl⟩
  rw [← et17] at hP
  refine z_aload_n C hl 0 rfl dX6_copyFrom_142 ?_
  refine z_aload_n C hl 1 rfl dX6_copyFrom_143 ?_
  refine zg32_X6_46 C hP dX6_copyFrom_144 ?_
  rw [show t17 32 10 = t14 32 10 from by rw [et17, zU_cell (by decide), et16, zU_cell (by decide), et15, zU_cell (by decide)]]
  refine zp_X6_46 C hP hS (by unfold zSet; omega) dX6_copyFrom_147 (fun H locs hP hS => ?_)
  obtain ⟨t18, et18⟩ : ∃ z : zS, z = zU t17 48 10 (t14 32 10) := ⟨_, rfl⟩
  rw [← et18] at hP
  refine z_aload_n C hl 0 rfl dX6_copyFrom_150 ?_
  refine z_aload_n C hl 1 rfl dX6_copyFrom_151 ?_
  refine zg32_X6_49 C hP dX6_copyFrom_152 ?_
  rw [show t18 32 11 = t14 32 11 from by rw [et18, zU_cell (by decide), et17, zU_cell (by decide), et16, zU_cell (by decide), et15, zU_cell (by decide)]]
  refine zp_X6_49 C hP hS (by unfold zSet; omega) dX6_copyFrom_155 (fun H locs hP hS => ?_)
  obtain ⟨t19, et19⟩ : ∃ z : zS, z = zU t18 48 11 (t14 32 11) := ⟨_, rfl⟩
  rw [← et19] at hP
  refine z_aload_n C hl 0 rfl dX6_copyFrom_158 ?_
  refine z_aload_n C hl 1 rfl dX6_copyFrom_159 ?_
  refine zg32_X6_52 C hP dX6_copyFrom_160 ?_
  rw [show t19 32 12 = t14 32 12 from by rw [et19, zU_cell (by decide), et18, zU_cell (by decide), et17, zU_cell (by decide), et16, zU_cell (by decide), et15, zU_cell (by decide)]]
  refine zp_X6_52 C hP hS (by unfold zSet; omega) dX6_copyFrom_163 (fun H locs hP hS => ?_)
  obtain ⟨t20, et20⟩ : ∃ z : zS, z = zU t19 48 12 (t14 32 12) := ⟨_, rfl⟩
  rw [← et20] at hP
  refine z_aload_n C hl 0 rfl dX6_copyFrom_166 ?_
  refine z_aload_n C hl 1 rfl dX6_copyFrom_167 ?_
  refine zg32_X6_55 C hP dX6_copyFrom_168 ?_
  rw [show t20 32 13 = t14 32 13 from by rw [et20, zU_cell (by decide), et19, zU_cell (by decide), et18, zU_cell (by decide), et17, zU_cell (by decide), et16, zU_cell (by decide), et15, zU_cell (by decide)]]
  refine zp_X6_55 C hP hS (by unfold zSet; omega) dX6_copyFrom_171 (fun H locs hP hS => ?_)
  obtain ⟨t21, et21⟩ : ∃ z : zS, z = zU t20 48 13 (t14 32 13) := ⟨_, rfl⟩
  rw [← et21] at hP
  exact z_retQv C hP hS hr hlocks (by subst_vars; exact ⟨(fun k hk => by funext j; simp [zU, zCpy, mRcp, (show k ≠ 48 by omega), (show k ≠ 49 by omega), (show k ≠ 50 by omega), (show k ≠ 51 by omega), (show k ≠ 52 by omega), (show k ≠ 53 by omega), (show k ≠ 54 by omega), (show k ≠ 55 by omega), (show k ≠ 56 by omega), (show k ≠ 57 by omega), (show k ≠ 58 by omega), (show k ≠ 59 by omega)]), (fun j h1 h2 => by rcases (by omega : j = 7 ∨ j = 8 ∨ j = 9 ∨ j = 10 ∨ j = 11 ∨ j = 12 ∨ j = 13) with rfl | rfl | rfl | rfl | rfl | rfl | rfl <;> simp [zU, zCpy, mRcp]), (fun j h1 h2 => by simp [zU, zCpy, mRcp, h1, h2]), (fun j h1 h2 => by simp [zU, zCpy, mRcp, h1, h2]), (fun j h1 h2 => by simp [zU, zCpy, mRcp, h1, h2]), (fun j h1 h2 => by simp [zU, zCpy, mRcp, h1, h2]), (fun j h1 h2 => by simp [zU, zCpy, mRcp, h1, h2]), (fun j h1 h2 => by simp [zU, zCpy, mRcp, h1, h2]), (fun j h1 h2 => by rcases (by omega : j = 0 ∨ j = 1 ∨ j = 2 ∨ j = 3 ∨ j = 4) with rfl | rfl | rfl | rfl | rfl <;> simp [zU, zCpy, mRcp]), (fun j h1 h2 => by rcases (by omega : j = 0 ∨ j = 1 ∨ j = 2 ∨ j = 3 ∨ j = 4) with rfl | rfl | rfl | rfl | rfl <;> simp [zU, zCpy, mRcp]), (fun j h1 h2 => by rcases (by omega : j = 0 ∨ j = 1 ∨ j = 2 ∨ j = 3 ∨ j = 4) with rfl | rfl | rfl | rfl | rfl <;> simp [zU, zCpy, mRcp]), (fun j h1 h2 => by rcases (by omega : j = 0 ∨ j = 1 ∨ j = 2 ∨ j = 3 ∨ j = 4) with rfl | rfl | rfl | rfl | rfl <;> simp [zU, zCpy, mRcp])⟩) dX6_copyFrom_174

set_option maxRecDepth 20000 in
set_option maxHeartbeats 4000000 in
theorem c_X6_copyFrom_64_32 {l : Launch} {D : va_G} {Y : Nat → ClassId} {a : Int → Nat} (hI : zI a) (σ : zS)  (h01 : ∀ k : Int, 40 ≤ k → k ≤ 43 → σ k 0 = 0 ∨ σ k 0 = 1) : zMet l yX6_copyFrom cX6_copyFrom 3 none 1 (zPc D Y a σ [.ref (a 64), .ref (a 32)]) (zQv D Y a (fun τ => (∀ k : Int, (k < 64 ∨ 75 < k) → τ k = σ k) ∧ (∀ j : Int, 7 ≤ j → j ≤ 13 → τ 64 j = σ 32 j) ∧ (∀ j : Int, 0 ≤ j → j < 24 → τ 66 j = σ 34 j) ∧ (∀ j : Int, 0 ≤ j → j < 24 → τ 67 j = σ 35 j) ∧ (∀ j : Int, 0 ≤ j → j < 6 → τ 68 j = σ 36 j) ∧ (∀ j : Int, 0 ≤ j → j < 6 → τ 69 j = σ 37 j) ∧ (∀ j : Int, 0 ≤ j → j < 6 → τ 70 j = σ 38 j) ∧ (∀ j : Int, 0 ≤ j → j < 6 → τ 71 j = σ 39 j) ∧ (∀ j : Int, 0 ≤ j → j ≤ 4 → τ 72 j = σ 40 j) ∧ (∀ j : Int, 0 ≤ j → j ≤ 4 → τ 73 j = σ 41 j) ∧ (∀ j : Int, 0 ≤ j → j ≤ 4 → τ 74 j = σ 42 j) ∧ (∀ j : Int, 0 ≤ j → j ≤ 4 → τ 75 j = σ 43 j))) (inA a) := by
  refine z_start rfl (Nat.le_of_ble_eq_true rfl) hI ?_
  intro p e s m below meth c ls C hr hlocks hl hP
  have hS : va_S (inA a) s.heap s.heap [] := va_S.rf
  have hl : lv_has ls 3 [(0, .ref (a 64)), (1, .ref (a 32))] := hl
  skip
  refine z_iconst C dX6_copyFrom_0 ?_
  refine z_istore_n C [1, 2, 0] [(0, .ref (a 64)), (1, .ref (a 32)), (2, .int (iI 0))] hl (by decide) rfl dX6_copyFrom_1 (fun ls hl => ?_)
  refine z_iload_n C hl 2 rfl dX6_copyFrom_2 ?_
  refine z_iconst C dX6_copyFrom_3 ?_
  refine z_icmpF_ge C 28 dX6_copyFrom_4 (by decide) ⟨by decide, by decide⟩ ⟨by decide, by decide⟩ (by decide) ?_
  refine z_aload_n C hl 0 rfl dX6_copyFrom_7 ?_
  refine zg_X6_11 C hP (by unfold zSet; omega) dX6_copyFrom_8 ?_
  rw [show (64 : Int) + 1 = 65 from rfl]
  refine z_iload_n C hl 2 rfl dX6_copyFrom_11 ?_
  refine z_aldR C hP (by omega) ⟨by omega, by omega⟩ dX6_copyFrom_12 ?_
  rw [show (65 : Int) + 7 + 0 = 72 from rfl]
  refine z_aload_n C hl 1 rfl dX6_copyFrom_13 ?_
  refine zg32_X6_11 C hP dX6_copyFrom_14 ?_
  refine z_iload_n C hl 2 rfl dX6_copyFrom_17 ?_
  refine z_aldR32 C hP ⟨by omega, by omega⟩ dX6_copyFrom_18 ?_
  rw [show (40 : Int) + 0 = 40 from rfl]
  refine z_vQv hS C hP (As := [.ref (a 40)]) lk_X6_59 (c_X4_copyFrom hI σ 72 40 (by unfold zRid; omega) (by unfold zRid; omega) (by omega) (by first | exact h01 _ (by omega) (by omega) | (rw [gsσ _ (by omega) (by omega)]; exact h01 _ (by omega) (by omega)))) (ob_rid (by unfold zRid; omega)) rfl rfl rfl hl.1 rfl (Nat.le_of_ble_eq_true rfl) ⟨Nat.le_of_ble_eq_true rfl, Nat.le_of_ble_eq_true rfl⟩ ⟨Nat.zero_le _, Nat.zero_le _⟩ dX6_copyFrom_19 (fun t2 H locs hp19 hP hS => ?_)
  have gst2 : ∀ k : Int, 40 ≤ k → k ≤ 43 → t2 k = σ k := fun k h1 h2 => by first | (rw [hp19, mRcp_c (by omega)]; done) | (rw [hp19, mRcp_c (by omega)]; exact gsσ k h1 h2)
  refine z_iinc C 2 [1, 2, 0] [(0, .ref (a 64)), (1, .ref (a 32)), (2, .int (iI 1))] hl rfl (by decide) rfl dX6_copyFrom_22 (fun ls hl => ?_)
  refine z_goto C 2 dX6_copyFrom_25 (by decide) ?_
  refine z_iload_n C hl 2 rfl dX6_copyFrom_2 ?_
  refine z_iconst C dX6_copyFrom_3 ?_
  refine z_icmpF_ge C 28 dX6_copyFrom_4 (by decide) ⟨by decide, by decide⟩ ⟨by decide, by decide⟩ (by decide) ?_
  refine z_aload_n C hl 0 rfl dX6_copyFrom_7 ?_
  refine zg_X6_11 C hP (by unfold zSet; omega) dX6_copyFrom_8 ?_
  rw [show (64 : Int) + 1 = 65 from rfl]
  refine z_iload_n C hl 2 rfl dX6_copyFrom_11 ?_
  refine z_aldR C hP (by omega) ⟨by omega, by omega⟩ dX6_copyFrom_12 ?_
  rw [show (65 : Int) + 7 + 1 = 73 from rfl]
  refine z_aload_n C hl 1 rfl dX6_copyFrom_13 ?_
  refine zg32_X6_11 C hP dX6_copyFrom_14 ?_
  refine z_iload_n C hl 2 rfl dX6_copyFrom_17 ?_
  refine z_aldR32 C hP ⟨by omega, by omega⟩ dX6_copyFrom_18 ?_
  rw [show (40 : Int) + 1 = 41 from rfl]
  refine z_vQv hS C hP (As := [.ref (a 41)]) lk_X6_59 (c_X4_copyFrom hI t2 73 41 (by unfold zRid; omega) (by unfold zRid; omega) (by omega) (by first | exact h01 _ (by omega) (by omega) | (rw [gst2 _ (by omega) (by omega)]; exact h01 _ (by omega) (by omega)))) (ob_rid (by unfold zRid; omega)) rfl rfl rfl hl.1 rfl (Nat.le_of_ble_eq_true rfl) ⟨Nat.le_of_ble_eq_true rfl, Nat.le_of_ble_eq_true rfl⟩ ⟨Nat.zero_le _, Nat.zero_le _⟩ dX6_copyFrom_19 (fun t4 H locs hp19 hP hS => ?_)
  have gst4 : ∀ k : Int, 40 ≤ k → k ≤ 43 → t4 k = σ k := fun k h1 h2 => by first | (rw [hp19, mRcp_c (by omega)]; done) | (rw [hp19, mRcp_c (by omega)]; exact gst2 k h1 h2)
  refine z_iinc C 2 [1, 2, 0] [(0, .ref (a 64)), (1, .ref (a 32)), (2, .int (iI 2))] hl rfl (by decide) rfl dX6_copyFrom_22 (fun ls hl => ?_)
  refine z_goto C 2 dX6_copyFrom_25 (by decide) ?_
  refine z_iload_n C hl 2 rfl dX6_copyFrom_2 ?_
  refine z_iconst C dX6_copyFrom_3 ?_
  refine z_icmpF_ge C 28 dX6_copyFrom_4 (by decide) ⟨by decide, by decide⟩ ⟨by decide, by decide⟩ (by decide) ?_
  refine z_aload_n C hl 0 rfl dX6_copyFrom_7 ?_
  refine zg_X6_11 C hP (by unfold zSet; omega) dX6_copyFrom_8 ?_
  rw [show (64 : Int) + 1 = 65 from rfl]
  refine z_iload_n C hl 2 rfl dX6_copyFrom_11 ?_
  refine z_aldR C hP (by omega) ⟨by omega, by omega⟩ dX6_copyFrom_12 ?_
  rw [show (65 : Int) + 7 + 2 = 74 from rfl]
  refine z_aload_n C hl 1 rfl dX6_copyFrom_13 ?_
  refine zg32_X6_11 C hP dX6_copyFrom_14 ?_
  refine z_iload_n C hl 2 rfl dX6_copyFrom_17 ?_
  refine z_aldR32 C hP ⟨by omega, by omega⟩ dX6_copyFrom_18 ?_
  rw [show (40 : Int) + 2 = 42 from rfl]
  refine z_vQv hS C hP (As := [.ref (a 42)]) lk_X6_59 (c_X4_copyFrom hI t4 74 42 (by unfold zRid; omega) (by unfold zRid; omega) (by omega) (by first | exact h01 _ (by omega) (by omega) | (rw [gst4 _ (by omega) (by omega)]; exact h01 _ (by omega) (by omega)))) (ob_rid (by unfold zRid; omega)) rfl rfl rfl hl.1 rfl (Nat.le_of_ble_eq_true rfl) ⟨Nat.le_of_ble_eq_true rfl, Nat.le_of_ble_eq_true rfl⟩ ⟨Nat.zero_le _, Nat.zero_le _⟩ dX6_copyFrom_19 (fun t6 H locs hp19 hP hS => ?_)
  have gst6 : ∀ k : Int, 40 ≤ k → k ≤ 43 → t6 k = σ k := fun k h1 h2 => by first | (rw [hp19, mRcp_c (by omega)]; done) | (rw [hp19, mRcp_c (by omega)]; exact gst4 k h1 h2)
  refine z_iinc C 2 [1, 2, 0] [(0, .ref (a 64)), (1, .ref (a 32)), (2, .int (iI 3))] hl rfl (by decide) rfl dX6_copyFrom_22 (fun ls hl => ?_)
  refine z_goto C 2 dX6_copyFrom_25 (by decide) ?_
  refine z_iload_n C hl 2 rfl dX6_copyFrom_2 ?_
  refine z_iconst C dX6_copyFrom_3 ?_
  refine z_icmpF_ge C 28 dX6_copyFrom_4 (by decide) ⟨by decide, by decide⟩ ⟨by decide, by decide⟩ (by decide) ?_
  refine z_aload_n C hl 0 rfl dX6_copyFrom_7 ?_
  refine zg_X6_11 C hP (by unfold zSet; omega) dX6_copyFrom_8 ?_
  rw [show (64 : Int) + 1 = 65 from rfl]
  refine z_iload_n C hl 2 rfl dX6_copyFrom_11 ?_
  refine z_aldR C hP (by omega) ⟨by omega, by omega⟩ dX6_copyFrom_12 ?_
  rw [show (65 : Int) + 7 + 3 = 75 from rfl]
  refine z_aload_n C hl 1 rfl dX6_copyFrom_13 ?_
  refine zg32_X6_11 C hP dX6_copyFrom_14 ?_
  refine z_iload_n C hl 2 rfl dX6_copyFrom_17 ?_
  refine z_aldR32 C hP ⟨by omega, by omega⟩ dX6_copyFrom_18 ?_
  rw [show (40 : Int) + 3 = 43 from rfl]
  refine z_vQv hS C hP (As := [.ref (a 43)]) lk_X6_59 (c_X4_copyFrom hI t6 75 43 (by unfold zRid; omega) (by unfold zRid; omega) (by omega) (by first | exact h01 _ (by omega) (by omega) | (rw [gst6 _ (by omega) (by omega)]; exact h01 _ (by omega) (by omega)))) (ob_rid (by unfold zRid; omega)) rfl rfl rfl hl.1 rfl (Nat.le_of_ble_eq_true rfl) ⟨Nat.le_of_ble_eq_true rfl, Nat.le_of_ble_eq_true rfl⟩ ⟨Nat.zero_le _, Nat.zero_le _⟩ dX6_copyFrom_19 (fun t8 H locs hp19 hP hS => ?_)
  have gst8 : ∀ k : Int, 40 ≤ k → k ≤ 43 → t8 k = σ k := fun k h1 h2 => by first | (rw [hp19, mRcp_c (by omega)]; done) | (rw [hp19, mRcp_c (by omega)]; exact gst6 k h1 h2)
  refine z_iinc C 2 [1, 2, 0] [(0, .ref (a 64)), (1, .ref (a 32)), (2, .int (iI 4))] hl rfl (by decide) rfl dX6_copyFrom_22 (fun ls hl => ?_)
  refine z_goto C 2 dX6_copyFrom_25 (by decide) ?_
  refine z_iload_n C hl 2 rfl dX6_copyFrom_2 ?_
  refine z_iconst C dX6_copyFrom_3 ?_
  refine z_icmpT_ge C 28 dX6_copyFrom_4 (by decide) ⟨by decide, by decide⟩ ⟨by decide, by decide⟩ (by decide) ?_
  refine z_aload_n C hl 1 rfl dX6_copyFrom_28 ?_
  refine zg32_X6_17 C hP dX6_copyFrom_29 ?_
  refine z_iconst C dX6_copyFrom_32 ?_
  refine z_aload_n C hl 0 rfl dX6_copyFrom_33 ?_
  refine zg_X6_17 C hP (by unfold zSet; omega) dX6_copyFrom_34 ?_
  rw [show (64 : Int) + 2 = 66 from rfl]
  refine z_iconst C dX6_copyFrom_37 ?_
  refine z_bipush C (by decide +kernel) dX6_copyFrom_38 ?_
  refine z_acopy C hP hS ia_34 ia_66 (n := 24) ⟨by decide, by decide, by decide⟩ wd_856 hl.1 ⟨(Nat.le_of_ble_eq_true rfl), (Nat.le_of_ble_eq_true rfl)⟩ dX6_copyFrom_40 (fun H locs hP hS => ?_)
  obtain ⟨t9, et9⟩ : ∃ z : zS, z = zCpy t8 34 66 24 := ⟨_, rfl⟩
  rw [← et9] at hP
  refine z_aload_n C hl 1 rfl dX6_copyFrom_43 ?_
  refine zg32_X6_21 C hP dX6_copyFrom_44 ?_
  refine z_iconst C dX6_copyFrom_47 ?_
  refine z_aload_n C hl 0 rfl dX6_copyFrom_48 ?_
  refine zg_X6_21 C hP (by unfold zSet; omega) dX6_copyFrom_49 ?_
  rw [show (64 : Int) + 3 = 67 from rfl]
  refine z_iconst C dX6_copyFrom_52 ?_
  refine z_bipush C (by decide +kernel) dX6_copyFrom_53 ?_
  refine z_acopy C hP hS ia_35 ia_67 (n := 24) ⟨by decide, by decide, by decide⟩ wd_856 hl.1 ⟨(Nat.le_of_ble_eq_true rfl), (Nat.le_of_ble_eq_true rfl)⟩ dX6_copyFrom_55 (fun H locs hP hS => ?_)
  obtain ⟨t10, et10⟩ : ∃ z : zS, z = zCpy t9 35 67 24 := ⟨_, rfl⟩
  rw [← et10] at hP
  refine z_aload_n C hl 1 rfl dX6_copyFrom_58 ?_
  refine zg32_X6_24 C hP dX6_copyFrom_59 ?_
  refine z_iconst C dX6_copyFrom_62 ?_
  refine z_aload_n C hl 0 rfl dX6_copyFrom_63 ?_
  refine zg_X6_24 C hP (by unfold zSet; omega) dX6_copyFrom_64 ?_
  rw [show (64 : Int) + 4 = 68 from rfl]
  refine z_iconst C dX6_copyFrom_67 ?_
  refine z_bipush C (by decide +kernel) dX6_copyFrom_68 ?_
  refine z_acopy C hP hS ia_36 ia_68 (n := 6) ⟨by decide, by decide, by decide⟩ wd_856 hl.1 ⟨(Nat.le_of_ble_eq_true rfl), (Nat.le_of_ble_eq_true rfl)⟩ dX6_copyFrom_70 (fun H locs hP hS => ?_)
  obtain ⟨t11, et11⟩ : ∃ z : zS, z = zCpy t10 36 68 6 := ⟨_, rfl⟩
  rw [← et11] at hP
  refine z_aload_n C hl 1 rfl dX6_copyFrom_73 ?_
  refine zg32_X6_27 C hP dX6_copyFrom_74 ?_
  refine z_iconst C dX6_copyFrom_77 ?_
  refine z_aload_n C hl 0 rfl dX6_copyFrom_78 ?_
  refine zg_X6_27 C hP (by unfold zSet; omega) dX6_copyFrom_79 ?_
  rw [show (64 : Int) + 5 = 69 from rfl]
  refine z_iconst C dX6_copyFrom_82 ?_
  refine z_bipush C (by decide +kernel) dX6_copyFrom_83 ?_
  refine z_acopy C hP hS ia_37 ia_69 (n := 6) ⟨by decide, by decide, by decide⟩ wd_856 hl.1 ⟨(Nat.le_of_ble_eq_true rfl), (Nat.le_of_ble_eq_true rfl)⟩ dX6_copyFrom_85 (fun H locs hP hS => ?_)
  obtain ⟨t12, et12⟩ : ∃ z : zS, z = zCpy t11 37 69 6 := ⟨_, rfl⟩
  rw [← et12] at hP
  refine z_aload_n C hl 1 rfl dX6_copyFrom_88 ?_
  refine zg32_X6_30 C hP dX6_copyFrom_89 ?_
  refine z_iconst C dX6_copyFrom_92 ?_
  refine z_aload_n C hl 0 rfl dX6_copyFrom_93 ?_
  refine zg_X6_30 C hP (by unfold zSet; omega) dX6_copyFrom_94 ?_
  rw [show (64 : Int) + 6 = 70 from rfl]
  refine z_iconst C dX6_copyFrom_97 ?_
  refine z_bipush C (by decide +kernel) dX6_copyFrom_98 ?_
  refine z_acopy C hP hS ia_38 ia_70 (n := 6) ⟨by decide, by decide, by decide⟩ wd_856 hl.1 ⟨(Nat.le_of_ble_eq_true rfl), (Nat.le_of_ble_eq_true rfl)⟩ dX6_copyFrom_100 (fun H locs hP hS => ?_)
  obtain ⟨t13, et13⟩ : ∃ z : zS, z = zCpy t12 38 70 6 := ⟨_, rfl⟩
  rw [← et13] at hP
  refine z_aload_n C hl 1 rfl dX6_copyFrom_103 ?_
  refine zg32_X6_33 C hP dX6_copyFrom_104 ?_
  refine z_iconst C dX6_copyFrom_107 ?_
  refine z_aload_n C hl 0 rfl dX6_copyFrom_108 ?_
  refine zg_X6_33 C hP (by unfold zSet; omega) dX6_copyFrom_109 ?_
  rw [show (64 : Int) + 7 = 71 from rfl]
  refine z_iconst C dX6_copyFrom_112 ?_
  refine z_bipush C (by decide +kernel) dX6_copyFrom_113 ?_
  refine z_acopy C hP hS ia_39 ia_71 (n := 6) ⟨by decide, by decide, by decide⟩ wd_856 hl.1 ⟨(Nat.le_of_ble_eq_true rfl), (Nat.le_of_ble_eq_true rfl)⟩ dX6_copyFrom_115 (fun H locs hP hS => ?_)
  obtain ⟨t14, et14⟩ : ∃ z : zS, z = zCpy t13 39 71 6 := ⟨_, rfl⟩
  rw [← et14] at hP
  refine z_aload_n C hl 0 rfl dX6_copyFrom_118 ?_
  refine z_aload_n C hl 1 rfl dX6_copyFrom_119 ?_
  refine zg32_X6_36 C hP dX6_copyFrom_120 ?_
  refine zp_X6_36 C hP hS (by unfold zSet; omega) dX6_copyFrom_123 (fun H locs hP hS => ?_)
  obtain ⟨t15, et15⟩ : ∃ z : zS, z = zU t14 64 7 (t14 32 7) := ⟨_, rfl⟩
  rw [← et15] at hP
  refine z_aload_n C hl 0 rfl dX6_copyFrom_126 ?_
  refine z_aload_n C hl 1 rfl dX6_copyFrom_127 ?_
  refine zg32_X6_40 C hP dX6_copyFrom_128 ?_
  rw [show t15 32 8 = t14 32 8 from by rw [et15, zU_cell (by decide)]]
  refine zp_X6_40 C hP hS (by unfold zSet; omega) dX6_copyFrom_131 (fun H locs hP hS => ?_)
  obtain ⟨t16, et16⟩ : ∃ z : zS, z = zU t15 64 8 (t14 32 8) := ⟨_, rfl⟩
  rw [← et16] at hP
  refine z_aload_n C hl 0 rfl dX6_copyFrom_134 ?_
  refine z_aload_n C hl 1 rfl dX6_copyFrom_135 ?_
  refine zg32_X6_43 C hP dX6_copyFrom_136 ?_
  rw [show t16 32 9 = t14 32 9 from by rw [et16, zU_cell (by decide), et15, zU_cell (by decide)]]
  refine zp_X6_43 C hP hS (by unfold zSet; omega) dX6_copyFrom_139 (fun H locs hP hS => ?_)
  obtain ⟨t17, et17⟩ : ∃ z : zS, z = zU t16 64 9 (t14 32 9) := ⟨_, rfl⟩
  rw [← et17] at hP
  refine z_aload_n C hl 0 rfl dX6_copyFrom_142 ?_
  refine z_aload_n C hl 1 rfl dX6_copyFrom_143 ?_
  refine zg32_X6_46 C hP dX6_copyFrom_144 ?_
  rw [show t17 32 10 = t14 32 10 from by rw [et17, zU_cell (by decide), et16, zU_cell (by decide), et15, zU_cell (by decide)]]
  refine zp_X6_46 C hP hS (by unfold zSet; omega) dX6_copyFrom_147 (fun H locs hP hS => ?_)
  obtain ⟨t18, et18⟩ : ∃ z : zS, z = zU t17 64 10 (t14 32 10) := ⟨_, rfl⟩
  rw [← et18] at hP
  refine z_aload_n C hl 0 rfl dX6_copyFrom_150 ?_
  refine z_aload_n C hl 1 rfl dX6_copyFrom_151 ?_
  refine zg32_X6_49 C hP dX6_copyFrom_152 ?_
  rw [show t18 32 11 = t14 32 11 from by rw [et18, zU_cell (by decide), et17, zU_cell (by decide), et16, zU_cell (by decide), et15, zU_cell (by decide)]]
  refine zp_X6_49 C hP hS (by unfold zSet; omega) dX6_copyFrom_155 (fun H locs hP hS => ?_)
  obtain ⟨t19, et19⟩ : ∃ z : zS, z = zU t18 64 11 (t14 32 11) := ⟨_, rfl⟩
  rw [← et19] at hP
  refine z_aload_n C hl 0 rfl dX6_copyFrom_158 ?_
  refine z_aload_n C hl 1 rfl dX6_copyFrom_159 ?_
  refine zg32_X6_52 C hP dX6_copyFrom_160 ?_
  rw [show t19 32 12 = t14 32 12 from by rw [et19, zU_cell (by decide), et18, zU_cell (by decide), et17, zU_cell (by decide), et16, zU_cell (by decide), et15, zU_cell (by decide)]]
  refine zp_X6_52 C hP hS (by unfold zSet; omega) dX6_copyFrom_163 (fun H locs hP hS => ?_)
  obtain ⟨t20, et20⟩ : ∃ z : zS, z = zU t19 64 12 (t14 32 12) := ⟨_, rfl⟩
  rw [← et20] at hP
  refine z_aload_n C hl 0 rfl dX6_copyFrom_166 ?_
  refine z_aload_n C hl 1 rfl dX6_copyFrom_167 ?_
  refine zg32_X6_55 C hP dX6_copyFrom_168 ?_
  rw [show t20 32 13 = t14 32 13 from by rw [et20, zU_cell (by decide), et19, zU_cell (by decide), et18, zU_cell (by decide), et17, zU_cell (by decide), et16, zU_cell (by decide), et15, zU_cell (by decide)]]
  refine zp_X6_55 C hP hS (by unfold zSet; omega) dX6_copyFrom_171 (fun H locs hP hS => ?_)
  obtain ⟨t21, et21⟩ : ∃ z : zS, z = zU t20 64 13 (t14 32 13) := ⟨_, rfl⟩
  rw [← et21] at hP
  exact z_retQv C hP hS hr hlocks (by subst_vars; exact ⟨(fun k hk => by funext j; simp [zU, zCpy, mRcp, (show k ≠ 64 by omega), (show k ≠ 65 by omega), (show k ≠ 66 by omega), (show k ≠ 67 by omega), (show k ≠ 68 by omega), (show k ≠ 69 by omega), (show k ≠ 70 by omega), (show k ≠ 71 by omega), (show k ≠ 72 by omega), (show k ≠ 73 by omega), (show k ≠ 74 by omega), (show k ≠ 75 by omega)]), (fun j h1 h2 => by rcases (by omega : j = 7 ∨ j = 8 ∨ j = 9 ∨ j = 10 ∨ j = 11 ∨ j = 12 ∨ j = 13) with rfl | rfl | rfl | rfl | rfl | rfl | rfl <;> simp [zU, zCpy, mRcp]), (fun j h1 h2 => by simp [zU, zCpy, mRcp, h1, h2]), (fun j h1 h2 => by simp [zU, zCpy, mRcp, h1, h2]), (fun j h1 h2 => by simp [zU, zCpy, mRcp, h1, h2]), (fun j h1 h2 => by simp [zU, zCpy, mRcp, h1, h2]), (fun j h1 h2 => by simp [zU, zCpy, mRcp, h1, h2]), (fun j h1 h2 => by simp [zU, zCpy, mRcp, h1, h2]), (fun j h1 h2 => by rcases (by omega : j = 0 ∨ j = 1 ∨ j = 2 ∨ j = 3 ∨ j = 4) with rfl | rfl | rfl | rfl | rfl <;> simp [zU, zCpy, mRcp]), (fun j h1 h2 => by rcases (by omega : j = 0 ∨ j = 1 ∨ j = 2 ∨ j = 3 ∨ j = 4) with rfl | rfl | rfl | rfl | rfl <;> simp [zU, zCpy, mRcp]), (fun j h1 h2 => by rcases (by omega : j = 0 ∨ j = 1 ∨ j = 2 ∨ j = 3 ∨ j = 4) with rfl | rfl | rfl | rfl | rfl <;> simp [zU, zCpy, mRcp]), (fun j h1 h2 => by rcases (by omega : j = 0 ∨ j = 1 ∨ j = 2 ∨ j = 3 ∨ j = 4) with rfl | rfl | rfl | rfl | rfl <;> simp [zU, zCpy, mRcp])⟩) dX6_copyFrom_174

set_option maxRecDepth 20000 in
set_option maxHeartbeats 4000000 in
theorem c_X6_copyFrom_32_48 {l : Launch} {D : va_G} {Y : Nat → ClassId} {a : Int → Nat} (hI : zI a) (σ : zS)  (h01 : ∀ k : Int, 56 ≤ k → k ≤ 59 → σ k 0 = 0 ∨ σ k 0 = 1) : zMet l yX6_copyFrom cX6_copyFrom 3 none 1 (zPc D Y a σ [.ref (a 32), .ref (a 48)]) (zQv D Y a (fun τ => (∀ k : Int, (k < 32 ∨ 43 < k) → τ k = σ k) ∧ (∀ j : Int, 7 ≤ j → j ≤ 13 → τ 32 j = σ 48 j) ∧ (∀ j : Int, 0 ≤ j → j < 24 → τ 34 j = σ 50 j) ∧ (∀ j : Int, 0 ≤ j → j < 24 → τ 35 j = σ 51 j) ∧ (∀ j : Int, 0 ≤ j → j < 6 → τ 36 j = σ 52 j) ∧ (∀ j : Int, 0 ≤ j → j < 6 → τ 37 j = σ 53 j) ∧ (∀ j : Int, 0 ≤ j → j < 6 → τ 38 j = σ 54 j) ∧ (∀ j : Int, 0 ≤ j → j < 6 → τ 39 j = σ 55 j) ∧ (∀ j : Int, 0 ≤ j → j ≤ 4 → τ 40 j = σ 56 j) ∧ (∀ j : Int, 0 ≤ j → j ≤ 4 → τ 41 j = σ 57 j) ∧ (∀ j : Int, 0 ≤ j → j ≤ 4 → τ 42 j = σ 58 j) ∧ (∀ j : Int, 0 ≤ j → j ≤ 4 → τ 43 j = σ 59 j))) (inA a) := by
  refine z_start rfl (Nat.le_of_ble_eq_true rfl) hI ?_
  intro p e s m below meth c ls C hr hlocks hl hP
  have hS : va_S (inA a) s.heap s.heap [] := va_S.rf
  have hl : lv_has ls 3 [(0, .ref (a 32)), (1, .ref (a 48))] := hl
  skip
  refine z_iconst C dX6_copyFrom_0 ?_
  refine z_istore_n C [1, 2, 0] [(0, .ref (a 32)), (1, .ref (a 48)), (2, .int (iI 0))] hl (by decide) rfl dX6_copyFrom_1 (fun ls hl => ?_)
  refine z_iload_n C hl 2 rfl dX6_copyFrom_2 ?_
  refine z_iconst C dX6_copyFrom_3 ?_
  refine z_icmpF_ge C 28 dX6_copyFrom_4 (by decide) ⟨by decide, by decide⟩ ⟨by decide, by decide⟩ (by decide) ?_
  refine z_aload_n C hl 0 rfl dX6_copyFrom_7 ?_
  refine zg32_X6_11 C hP dX6_copyFrom_8 ?_
  refine z_iload_n C hl 2 rfl dX6_copyFrom_11 ?_
  refine z_aldR32 C hP ⟨by omega, by omega⟩ dX6_copyFrom_12 ?_
  rw [show (40 : Int) + 0 = 40 from rfl]
  refine z_aload_n C hl 1 rfl dX6_copyFrom_13 ?_
  refine zg_X6_11 C hP (by unfold zSet; omega) dX6_copyFrom_14 ?_
  rw [show (48 : Int) + 1 = 49 from rfl]
  refine z_iload_n C hl 2 rfl dX6_copyFrom_17 ?_
  refine z_aldR C hP (by omega) ⟨by omega, by omega⟩ dX6_copyFrom_18 ?_
  rw [show (49 : Int) + 7 + 0 = 56 from rfl]
  refine z_vQv hS C hP (As := [.ref (a 56)]) lk_X6_59 (c_X4_copyFrom hI σ 40 56 (by unfold zRid; omega) (by unfold zRid; omega) (by omega) (by first | exact h01 _ (by omega) (by omega) | (rw [gsσ _ (by omega) (by omega)]; exact h01 _ (by omega) (by omega)))) (ob_rid (by unfold zRid; omega)) rfl rfl rfl hl.1 rfl (Nat.le_of_ble_eq_true rfl) ⟨Nat.le_of_ble_eq_true rfl, Nat.le_of_ble_eq_true rfl⟩ ⟨Nat.zero_le _, Nat.zero_le _⟩ dX6_copyFrom_19 (fun t2 H locs hp19 hP hS => ?_)
  have gst2 : ∀ k : Int, 56 ≤ k → k ≤ 59 → t2 k = σ k := fun k h1 h2 => by first | (rw [hp19, mRcp_c (by omega)]; done) | (rw [hp19, mRcp_c (by omega)]; exact gsσ k h1 h2)
  refine z_iinc C 2 [1, 2, 0] [(0, .ref (a 32)), (1, .ref (a 48)), (2, .int (iI 1))] hl rfl (by decide) rfl dX6_copyFrom_22 (fun ls hl => ?_)
  refine z_goto C 2 dX6_copyFrom_25 (by decide) ?_
  refine z_iload_n C hl 2 rfl dX6_copyFrom_2 ?_
  refine z_iconst C dX6_copyFrom_3 ?_
  refine z_icmpF_ge C 28 dX6_copyFrom_4 (by decide) ⟨by decide, by decide⟩ ⟨by decide, by decide⟩ (by decide) ?_
  refine z_aload_n C hl 0 rfl dX6_copyFrom_7 ?_
  refine zg32_X6_11 C hP dX6_copyFrom_8 ?_
  refine z_iload_n C hl 2 rfl dX6_copyFrom_11 ?_
  refine z_aldR32 C hP ⟨by omega, by omega⟩ dX6_copyFrom_12 ?_
  rw [show (40 : Int) + 1 = 41 from rfl]
  refine z_aload_n C hl 1 rfl dX6_copyFrom_13 ?_
  refine zg_X6_11 C hP (by unfold zSet; omega) dX6_copyFrom_14 ?_
  rw [show (48 : Int) + 1 = 49 from rfl]
  refine z_iload_n C hl 2 rfl dX6_copyFrom_17 ?_
  refine z_aldR C hP (by omega) ⟨by omega, by omega⟩ dX6_copyFrom_18 ?_
  rw [show (49 : Int) + 7 + 1 = 57 from rfl]
  refine z_vQv hS C hP (As := [.ref (a 57)]) lk_X6_59 (c_X4_copyFrom hI t2 41 57 (by unfold zRid; omega) (by unfold zRid; omega) (by omega) (by first | exact h01 _ (by omega) (by omega) | (rw [gst2 _ (by omega) (by omega)]; exact h01 _ (by omega) (by omega)))) (ob_rid (by unfold zRid; omega)) rfl rfl rfl hl.1 rfl (Nat.le_of_ble_eq_true rfl) ⟨Nat.le_of_ble_eq_true rfl, Nat.le_of_ble_eq_true rfl⟩ ⟨Nat.zero_le _, Nat.zero_le _⟩ dX6_copyFrom_19 (fun t4 H locs hp19 hP hS => ?_)
  have gst4 : ∀ k : Int, 56 ≤ k → k ≤ 59 → t4 k = σ k := fun k h1 h2 => by first | (rw [hp19, mRcp_c (by omega)]; done) | (rw [hp19, mRcp_c (by omega)]; exact gst2 k h1 h2)
  refine z_iinc C 2 [1, 2, 0] [(0, .ref (a 32)), (1, .ref (a 48)), (2, .int (iI 2))] hl rfl (by decide) rfl dX6_copyFrom_22 (fun ls hl => ?_)
  refine z_goto C 2 dX6_copyFrom_25 (by decide) ?_
  refine z_iload_n C hl 2 rfl dX6_copyFrom_2 ?_
  refine z_iconst C dX6_copyFrom_3 ?_
  refine z_icmpF_ge C 28 dX6_copyFrom_4 (by decide) ⟨by decide, by decide⟩ ⟨by decide, by decide⟩ (by decide) ?_
  refine z_aload_n C hl 0 rfl dX6_copyFrom_7 ?_
  refine zg32_X6_11 C hP dX6_copyFrom_8 ?_
  refine z_iload_n C hl 2 rfl dX6_copyFrom_11 ?_
  refine z_aldR32 C hP ⟨by omega, by omega⟩ dX6_copyFrom_12 ?_
  rw [show (40 : Int) + 2 = 42 from rfl]
  refine z_aload_n C hl 1 rfl dX6_copyFrom_13 ?_
  refine zg_X6_11 C hP (by unfold zSet; omega) dX6_copyFrom_14 ?_
  rw [show (48 : Int) + 1 = 49 from rfl]
  refine z_iload_n C hl 2 rfl dX6_copyFrom_17 ?_
  refine z_aldR C hP (by omega) ⟨by omega, by omega⟩ dX6_copyFrom_18 ?_
  rw [show (49 : Int) + 7 + 2 = 58 from rfl]
  refine z_vQv hS C hP (As := [.ref (a 58)]) lk_X6_59 (c_X4_copyFrom hI t4 42 58 (by unfold zRid; omega) (by unfold zRid; omega) (by omega) (by first | exact h01 _ (by omega) (by omega) | (rw [gst4 _ (by omega) (by omega)]; exact h01 _ (by omega) (by omega)))) (ob_rid (by unfold zRid; omega)) rfl rfl rfl hl.1 rfl (Nat.le_of_ble_eq_true rfl) ⟨Nat.le_of_ble_eq_true rfl, Nat.le_of_ble_eq_true rfl⟩ ⟨Nat.zero_le _, Nat.zero_le _⟩ dX6_copyFrom_19 (fun t6 H locs hp19 hP hS => ?_)
  have gst6 : ∀ k : Int, 56 ≤ k → k ≤ 59 → t6 k = σ k := fun k h1 h2 => by first | (rw [hp19, mRcp_c (by omega)]; done) | (rw [hp19, mRcp_c (by omega)]; exact gst4 k h1 h2)
  refine z_iinc C 2 [1, 2, 0] [(0, .ref (a 32)), (1, .ref (a 48)), (2, .int (iI 3))] hl rfl (by decide) rfl dX6_copyFrom_22 (fun ls hl => ?_)
  refine z_goto C 2 dX6_copyFrom_25 (by decide) ?_
  refine z_iload_n C hl 2 rfl dX6_copyFrom_2 ?_
  refine z_iconst C dX6_copyFrom_3 ?_
  refine z_icmpF_ge C 28 dX6_copyFrom_4 (by decide) ⟨by decide, by decide⟩ ⟨by decide, by decide⟩ (by decide) ?_
  refine z_aload_n C hl 0 rfl dX6_copyFrom_7 ?_
  refine zg32_X6_11 C hP dX6_copyFrom_8 ?_
  refine z_iload_n C hl 2 rfl dX6_copyFrom_11 ?_
  refine z_aldR32 C hP ⟨by omega, by omega⟩ dX6_copyFrom_12 ?_
  rw [show (40 : Int) + 3 = 43 from rfl]
  refine z_aload_n C hl 1 rfl dX6_copyFrom_13 ?_
  refine zg_X6_11 C hP (by unfold zSet; omega) dX6_copyFrom_14 ?_
  rw [show (48 : Int) + 1 = 49 from rfl]
  refine z_iload_n C hl 2 rfl dX6_copyFrom_17 ?_
  refine z_aldR C hP (by omega) ⟨by omega, by omega⟩ dX6_copyFrom_18 ?_
  rw [show (49 : Int) + 7 + 3 = 59 from rfl]
  refine z_vQv hS C hP (As := [.ref (a 59)]) lk_X6_59 (c_X4_copyFrom hI t6 43 59 (by unfold zRid; omega) (by unfold zRid; omega) (by omega) (by first | exact h01 _ (by omega) (by omega) | (rw [gst6 _ (by omega) (by omega)]; exact h01 _ (by omega) (by omega)))) (ob_rid (by unfold zRid; omega)) rfl rfl rfl hl.1 rfl (Nat.le_of_ble_eq_true rfl) ⟨Nat.le_of_ble_eq_true rfl, Nat.le_of_ble_eq_true rfl⟩ ⟨Nat.zero_le _, Nat.zero_le _⟩ dX6_copyFrom_19 (fun t8 H locs hp19 hP hS => ?_)
  have gst8 : ∀ k : Int, 56 ≤ k → k ≤ 59 → t8 k = σ k := fun k h1 h2 => by first | (rw [hp19, mRcp_c (by omega)]; done) | (rw [hp19, mRcp_c (by omega)]; exact gst6 k h1 h2)
  refine z_iinc C 2 [1, 2, 0] [(0, .ref (a 32)), (1, .ref (a 48)), (2, .int (iI 4))] hl rfl (by decide) rfl dX6_copyFrom_22 (fun ls hl => ?_)
  refine z_goto C 2 dX6_copyFrom_25 (by decide) ?_
  refine z_iload_n C hl 2 rfl dX6_copyFrom_2 ?_
  refine z_iconst C dX6_copyFrom_3 ?_
  refine z_icmpT_ge C 28 dX6_copyFrom_4 (by decide) ⟨by decide, by decide⟩ ⟨by decide, by decide⟩ (by decide) ?_
  refine z_aload_n C hl 1 rfl dX6_copyFrom_28 ?_
  refine zg_X6_17 C hP (by unfold zSet; omega) dX6_copyFrom_29 ?_
  rw [show (48 : Int) + 2 = 50 from rfl]
  refine z_iconst C dX6_copyFrom_32 ?_
  refine z_aload_n C hl 0 rfl dX6_copyFrom_33 ?_
  refine zg32_X6_17 C hP dX6_copyFrom_34 ?_
  refine z_iconst C dX6_copyFrom_37 ?_
  refine z_bipush C (by decide +kernel) dX6_copyFrom_38 ?_
  refine z_acopy C hP hS ia_50 ia_34 (n := 24) ⟨by decide, by decide, by decide⟩ wd_856 hl.1 ⟨(Nat.le_of_ble_eq_true rfl), (Nat.le_of_ble_eq_true rfl)⟩ dX6_copyFrom_40 (fun H locs hP hS => ?_)
  obtain ⟨t9, et9⟩ : ∃ z : zS, z = zCpy t8 50 34 24 := ⟨_, rfl⟩
  rw [← et9] at hP
  refine z_aload_n C hl 1 rfl dX6_copyFrom_43 ?_
  refine zg_X6_21 C hP (by unfold zSet; omega) dX6_copyFrom_44 ?_
  rw [show (48 : Int) + 3 = 51 from rfl]
  refine z_iconst C dX6_copyFrom_47 ?_
  refine z_aload_n C hl 0 rfl dX6_copyFrom_48 ?_
  refine zg32_X6_21 C hP dX6_copyFrom_49 ?_
  refine z_iconst C dX6_copyFrom_52 ?_
  refine z_bipush C (by decide +kernel) dX6_copyFrom_53 ?_
  refine z_acopy C hP hS ia_51 ia_35 (n := 24) ⟨by decide, by decide, by decide⟩ wd_856 hl.1 ⟨(Nat.le_of_ble_eq_true rfl), (Nat.le_of_ble_eq_true rfl)⟩ dX6_copyFrom_55 (fun H locs hP hS => ?_)
  obtain ⟨t10, et10⟩ : ∃ z : zS, z = zCpy t9 51 35 24 := ⟨_, rfl⟩
  rw [← et10] at hP
  refine z_aload_n C hl 1 rfl dX6_copyFrom_58 ?_
  refine zg_X6_24 C hP (by unfold zSet; omega) dX6_copyFrom_59 ?_
  rw [show (48 : Int) + 4 = 52 from rfl]
  refine z_iconst C dX6_copyFrom_62 ?_
  refine z_aload_n C hl 0 rfl dX6_copyFrom_63 ?_
  refine zg32_X6_24 C hP dX6_copyFrom_64 ?_
  refine z_iconst C dX6_copyFrom_67 ?_
  refine z_bipush C (by decide +kernel) dX6_copyFrom_68 ?_
  refine z_acopy C hP hS ia_52 ia_36 (n := 6) ⟨by decide, by decide, by decide⟩ wd_856 hl.1 ⟨(Nat.le_of_ble_eq_true rfl), (Nat.le_of_ble_eq_true rfl)⟩ dX6_copyFrom_70 (fun H locs hP hS => ?_)
  obtain ⟨t11, et11⟩ : ∃ z : zS, z = zCpy t10 52 36 6 := ⟨_, rfl⟩
  rw [← et11] at hP
  refine z_aload_n C hl 1 rfl dX6_copyFrom_73 ?_
  refine zg_X6_27 C hP (by unfold zSet; omega) dX6_copyFrom_74 ?_
  rw [show (48 : Int) + 5 = 53 from rfl]
  refine z_iconst C dX6_copyFrom_77 ?_
  refine z_aload_n C hl 0 rfl dX6_copyFrom_78 ?_
  refine zg32_X6_27 C hP dX6_copyFrom_79 ?_
  refine z_iconst C dX6_copyFrom_82 ?_
  refine z_bipush C (by decide +kernel) dX6_copyFrom_83 ?_
  refine z_acopy C hP hS ia_53 ia_37 (n := 6) ⟨by decide, by decide, by decide⟩ wd_856 hl.1 ⟨(Nat.le_of_ble_eq_true rfl), (Nat.le_of_ble_eq_true rfl)⟩ dX6_copyFrom_85 (fun H locs hP hS => ?_)
  obtain ⟨t12, et12⟩ : ∃ z : zS, z = zCpy t11 53 37 6 := ⟨_, rfl⟩
  rw [← et12] at hP
  refine z_aload_n C hl 1 rfl dX6_copyFrom_88 ?_
  refine zg_X6_30 C hP (by unfold zSet; omega) dX6_copyFrom_89 ?_
  rw [show (48 : Int) + 6 = 54 from rfl]
  refine z_iconst C dX6_copyFrom_92 ?_
  refine z_aload_n C hl 0 rfl dX6_copyFrom_93 ?_
  refine zg32_X6_30 C hP dX6_copyFrom_94 ?_
  refine z_iconst C dX6_copyFrom_97 ?_
  refine z_bipush C (by decide +kernel) dX6_copyFrom_98 ?_
  refine z_acopy C hP hS ia_54 ia_38 (n := 6) ⟨by decide, by decide, by decide⟩ wd_856 hl.1 ⟨(Nat.le_of_ble_eq_true rfl), (Nat.le_of_ble_eq_true rfl)⟩ dX6_copyFrom_100 (fun H locs hP hS => ?_)
  obtain ⟨t13, et13⟩ : ∃ z : zS, z = zCpy t12 54 38 6 := ⟨_, rfl⟩
  rw [← et13] at hP
  refine z_aload_n C hl 1 rfl dX6_copyFrom_103 ?_
  refine zg_X6_33 C hP (by unfold zSet; omega) dX6_copyFrom_104 ?_
  rw [show (48 : Int) + 7 = 55 from rfl]
  refine z_iconst C dX6_copyFrom_107 ?_
  refine z_aload_n C hl 0 rfl dX6_copyFrom_108 ?_
  refine zg32_X6_33 C hP dX6_copyFrom_109 ?_
  refine z_iconst C dX6_copyFrom_112 ?_
  refine z_bipush C (by decide +kernel) dX6_copyFrom_113 ?_
  refine z_acopy C hP hS ia_55 ia_39 (n := 6) ⟨by decide, by decide, by decide⟩ wd_856 hl.1 ⟨(Nat.le_of_ble_eq_true rfl), (Nat.le_of_ble_eq_true rfl)⟩ dX6_copyFrom_115 (fun H locs hP hS => ?_)
  obtain ⟨t14, et14⟩ : ∃ z : zS, z = zCpy t13 55 39 6 := ⟨_, rfl⟩
  rw [← et14] at hP
  refine z_aload_n C hl 0 rfl dX6_copyFrom_118 ?_
  refine z_aload_n C hl 1 rfl dX6_copyFrom_119 ?_
  refine zg_X6_36 C hP (by unfold zSet; omega) dX6_copyFrom_120 ?_
  refine zp32_X6_36 C hP hS dX6_copyFrom_123 (fun H locs hP hS => ?_)
  obtain ⟨t15, et15⟩ : ∃ z : zS, z = zU t14 32 7 (t14 48 7) := ⟨_, rfl⟩
  rw [← et15] at hP
  refine z_aload_n C hl 0 rfl dX6_copyFrom_126 ?_
  refine z_aload_n C hl 1 rfl dX6_copyFrom_127 ?_
  refine zg_X6_40 C hP (by unfold zSet; omega) dX6_copyFrom_128 ?_
  rw [show t15 48 8 = t14 48 8 from by rw [et15, zU_cell (by decide)]]
  refine zp32_X6_40 C hP hS dX6_copyFrom_131 (fun H locs hP hS => ?_)
  obtain ⟨t16, et16⟩ : ∃ z : zS, z = zU t15 32 8 (t14 48 8) := ⟨_, rfl⟩
  rw [← et16] at hP
  refine z_aload_n C hl 0 rfl dX6_copyFrom_134 ?_
  refine z_aload_n C hl 1 rfl dX6_copyFrom_135 ?_
  refine zg_X6_43 C hP (by unfold zSet; omega) dX6_copyFrom_136 ?_
  rw [show t16 48 9 = t14 48 9 from by rw [et16, zU_cell (by decide), et15, zU_cell (by decide)]]
  refine zp32_X6_43 C hP hS dX6_copyFrom_139 (fun H locs hP hS => ?_)
  obtain ⟨t17, et17⟩ : ∃ z : zS, z = zU t16 32 9 (t14 48 9) := ⟨_, rfl⟩
  rw [← et17] at hP
  refine z_aload_n C hl 0 rfl dX6_copyFrom_142 ?_
  refine z_aload_n C hl 1 rfl dX6_copyFrom_143 ?_
  refine zg_X6_46 C hP (by unfold zSet; omega) dX6_copyFrom_144 ?_
  rw [show t17 48 10 = t14 48 10 from by rw [et17, zU_cell (by decide), et16, zU_cell (by decide), et15, zU_cell (by decide)]]
  refine zp32_X6_46 C hP hS dX6_copyFrom_147 (fun H locs hP hS => ?_)
  obtain ⟨t18, et18⟩ : ∃ z : zS, z = zU t17 32 10 (t14 48 10) := ⟨_, rfl⟩
  rw [← et18] at hP
  refine z_aload_n C hl 0 rfl dX6_copyFrom_150 ?_
  refine z_aload_n C hl 1 rfl dX6_copyFrom_151 ?_
  refine zg_X6_49 C hP (by unfold zSet; omega) dX6_copyFrom_152 ?_
  rw [show t18 48 11 = t14 48 11 from by rw [et18, zU_cell (by decide), et17, zU_cell (by decide), et16, zU_cell (by decide), et15, zU_cell (by decide)]]
  refine zp32_X6_49 C hP hS dX6_copyFrom_155 (fun H locs hP hS => ?_)
  obtain ⟨t19, et19⟩ : ∃ z : zS, z = zU t18 32 11 (t14 48 11) := ⟨_, rfl⟩
  rw [← et19] at hP
  refine z_aload_n C hl 0 rfl dX6_copyFrom_158 ?_
  refine z_aload_n C hl 1 rfl dX6_copyFrom_159 ?_
  refine zg_X6_52 C hP (by unfold zSet; omega) dX6_copyFrom_160 ?_
  rw [show t19 48 12 = t14 48 12 from by rw [et19, zU_cell (by decide), et18, zU_cell (by decide), et17, zU_cell (by decide), et16, zU_cell (by decide), et15, zU_cell (by decide)]]
  refine zp32_X6_52 C hP hS dX6_copyFrom_163 (fun H locs hP hS => ?_)
  obtain ⟨t20, et20⟩ : ∃ z : zS, z = zU t19 32 12 (t14 48 12) := ⟨_, rfl⟩
  rw [← et20] at hP
  refine z_aload_n C hl 0 rfl dX6_copyFrom_166 ?_
  refine z_aload_n C hl 1 rfl dX6_copyFrom_167 ?_
  refine zg_X6_55 C hP (by unfold zSet; omega) dX6_copyFrom_168 ?_
  rw [show t20 48 13 = t14 48 13 from by rw [et20, zU_cell (by decide), et19, zU_cell (by decide), et18, zU_cell (by decide), et17, zU_cell (by decide), et16, zU_cell (by decide), et15, zU_cell (by decide)]]
  refine zp32_X6_55 C hP hS dX6_copyFrom_171 (fun H locs hP hS => ?_)
  obtain ⟨t21, et21⟩ : ∃ z : zS, z = zU t20 32 13 (t14 48 13) := ⟨_, rfl⟩
  rw [← et21] at hP
  exact z_retQv C hP hS hr hlocks (by subst_vars; exact ⟨(fun k hk => by funext j; simp [zU, zCpy, mRcp, (show k ≠ 32 by omega), (show k ≠ 33 by omega), (show k ≠ 34 by omega), (show k ≠ 35 by omega), (show k ≠ 36 by omega), (show k ≠ 37 by omega), (show k ≠ 38 by omega), (show k ≠ 39 by omega), (show k ≠ 40 by omega), (show k ≠ 41 by omega), (show k ≠ 42 by omega), (show k ≠ 43 by omega)]), (fun j h1 h2 => by rcases (by omega : j = 7 ∨ j = 8 ∨ j = 9 ∨ j = 10 ∨ j = 11 ∨ j = 12 ∨ j = 13) with rfl | rfl | rfl | rfl | rfl | rfl | rfl <;> simp [zU, zCpy, mRcp]), (fun j h1 h2 => by simp [zU, zCpy, mRcp, h1, h2]), (fun j h1 h2 => by simp [zU, zCpy, mRcp, h1, h2]), (fun j h1 h2 => by simp [zU, zCpy, mRcp, h1, h2]), (fun j h1 h2 => by simp [zU, zCpy, mRcp, h1, h2]), (fun j h1 h2 => by simp [zU, zCpy, mRcp, h1, h2]), (fun j h1 h2 => by simp [zU, zCpy, mRcp, h1, h2]), (fun j h1 h2 => by rcases (by omega : j = 0 ∨ j = 1 ∨ j = 2 ∨ j = 3 ∨ j = 4) with rfl | rfl | rfl | rfl | rfl <;> simp [zU, zCpy, mRcp]), (fun j h1 h2 => by rcases (by omega : j = 0 ∨ j = 1 ∨ j = 2 ∨ j = 3 ∨ j = 4) with rfl | rfl | rfl | rfl | rfl <;> simp [zU, zCpy, mRcp]), (fun j h1 h2 => by rcases (by omega : j = 0 ∨ j = 1 ∨ j = 2 ∨ j = 3 ∨ j = 4) with rfl | rfl | rfl | rfl | rfl <;> simp [zU, zCpy, mRcp]), (fun j h1 h2 => by rcases (by omega : j = 0 ∨ j = 1 ∨ j = 2 ∨ j = 3 ∨ j = 4) with rfl | rfl | rfl | rfl | rfl <;> simp [zU, zCpy, mRcp])⟩) dX6_copyFrom_174

set_option maxRecDepth 20000 in
set_option maxHeartbeats 4000000 in
theorem c_X6_copyFrom_32_64 {l : Launch} {D : va_G} {Y : Nat → ClassId} {a : Int → Nat} (hI : zI a) (σ : zS)  (h01 : ∀ k : Int, 72 ≤ k → k ≤ 75 → σ k 0 = 0 ∨ σ k 0 = 1) : zMet l yX6_copyFrom cX6_copyFrom 3 none 1 (zPc D Y a σ [.ref (a 32), .ref (a 64)]) (zQv D Y a (fun τ => (∀ k : Int, (k < 32 ∨ 43 < k) → τ k = σ k) ∧ (∀ j : Int, 7 ≤ j → j ≤ 13 → τ 32 j = σ 64 j) ∧ (∀ j : Int, 0 ≤ j → j < 24 → τ 34 j = σ 66 j) ∧ (∀ j : Int, 0 ≤ j → j < 24 → τ 35 j = σ 67 j) ∧ (∀ j : Int, 0 ≤ j → j < 6 → τ 36 j = σ 68 j) ∧ (∀ j : Int, 0 ≤ j → j < 6 → τ 37 j = σ 69 j) ∧ (∀ j : Int, 0 ≤ j → j < 6 → τ 38 j = σ 70 j) ∧ (∀ j : Int, 0 ≤ j → j < 6 → τ 39 j = σ 71 j) ∧ (∀ j : Int, 0 ≤ j → j ≤ 4 → τ 40 j = σ 72 j) ∧ (∀ j : Int, 0 ≤ j → j ≤ 4 → τ 41 j = σ 73 j) ∧ (∀ j : Int, 0 ≤ j → j ≤ 4 → τ 42 j = σ 74 j) ∧ (∀ j : Int, 0 ≤ j → j ≤ 4 → τ 43 j = σ 75 j))) (inA a) := by
  refine z_start rfl (Nat.le_of_ble_eq_true rfl) hI ?_
  intro p e s m below meth c ls C hr hlocks hl hP
  have hS : va_S (inA a) s.heap s.heap [] := va_S.rf
  have hl : lv_has ls 3 [(0, .ref (a 32)), (1, .ref (a 64))] := hl
  skip
  refine z_iconst C dX6_copyFrom_0 ?_
  refine z_istore_n C [1, 2, 0] [(0, .ref (a 32)), (1, .ref (a 64)), (2, .int (iI 0))] hl (by decide) rfl dX6_copyFrom_1 (fun ls hl => ?_)
  refine z_iload_n C hl 2 rfl dX6_copyFrom_2 ?_
  refine z_iconst C dX6_copyFrom_3 ?_
  refine z_icmpF_ge C 28 dX6_copyFrom_4 (by decide) ⟨by decide, by decide⟩ ⟨by decide, by decide⟩ (by decide) ?_
  refine z_aload_n C hl 0 rfl dX6_copyFrom_7 ?_
  refine zg32_X6_11 C hP dX6_copyFrom_8 ?_
  refine z_iload_n C hl 2 rfl dX6_copyFrom_11 ?_
  refine z_aldR32 C hP ⟨by omega, by omega⟩ dX6_copyFrom_12 ?_
  rw [show (40 : Int) + 0 = 40 from rfl]
  refine z_aload_n C hl 1 rfl dX6_copyFrom_13 ?_
  refine zg_X6_11 C hP (by unfold zSet; omega) dX6_copyFrom_14 ?_
  rw [show (64 : Int) + 1 = 65 from rfl]
  refine z_iload_n C hl 2 rfl dX6_copyFrom_17 ?_
  refine z_aldR C hP (by omega) ⟨by omega, by omega⟩ dX6_copyFrom_18 ?_
  rw [show (65 : Int) + 7 + 0 = 72 from rfl]
  refine z_vQv hS C hP (As := [.ref (a 72)]) lk_X6_59 (c_X4_copyFrom hI σ 40 72 (by unfold zRid; omega) (by unfold zRid; omega) (by omega) (by first | exact h01 _ (by omega) (by omega) | (rw [gsσ _ (by omega) (by omega)]; exact h01 _ (by omega) (by omega)))) (ob_rid (by unfold zRid; omega)) rfl rfl rfl hl.1 rfl (Nat.le_of_ble_eq_true rfl) ⟨Nat.le_of_ble_eq_true rfl, Nat.le_of_ble_eq_true rfl⟩ ⟨Nat.zero_le _, Nat.zero_le _⟩ dX6_copyFrom_19 (fun t2 H locs hp19 hP hS => ?_)
  have gst2 : ∀ k : Int, 72 ≤ k → k ≤ 75 → t2 k = σ k := fun k h1 h2 => by first | (rw [hp19, mRcp_c (by omega)]; done) | (rw [hp19, mRcp_c (by omega)]; exact gsσ k h1 h2)
  refine z_iinc C 2 [1, 2, 0] [(0, .ref (a 32)), (1, .ref (a 64)), (2, .int (iI 1))] hl rfl (by decide) rfl dX6_copyFrom_22 (fun ls hl => ?_)
  refine z_goto C 2 dX6_copyFrom_25 (by decide) ?_
  refine z_iload_n C hl 2 rfl dX6_copyFrom_2 ?_
  refine z_iconst C dX6_copyFrom_3 ?_
  refine z_icmpF_ge C 28 dX6_copyFrom_4 (by decide) ⟨by decide, by decide⟩ ⟨by decide, by decide⟩ (by decide) ?_
  refine z_aload_n C hl 0 rfl dX6_copyFrom_7 ?_
  refine zg32_X6_11 C hP dX6_copyFrom_8 ?_
  refine z_iload_n C hl 2 rfl dX6_copyFrom_11 ?_
  refine z_aldR32 C hP ⟨by omega, by omega⟩ dX6_copyFrom_12 ?_
  rw [show (40 : Int) + 1 = 41 from rfl]
  refine z_aload_n C hl 1 rfl dX6_copyFrom_13 ?_
  refine zg_X6_11 C hP (by unfold zSet; omega) dX6_copyFrom_14 ?_
  rw [show (64 : Int) + 1 = 65 from rfl]
  refine z_iload_n C hl 2 rfl dX6_copyFrom_17 ?_
  refine z_aldR C hP (by omega) ⟨by omega, by omega⟩ dX6_copyFrom_18 ?_
  rw [show (65 : Int) + 7 + 1 = 73 from rfl]
  refine z_vQv hS C hP (As := [.ref (a 73)]) lk_X6_59 (c_X4_copyFrom hI t2 41 73 (by unfold zRid; omega) (by unfold zRid; omega) (by omega) (by first | exact h01 _ (by omega) (by omega) | (rw [gst2 _ (by omega) (by omega)]; exact h01 _ (by omega) (by omega)))) (ob_rid (by unfold zRid; omega)) rfl rfl rfl hl.1 rfl (Nat.le_of_ble_eq_true rfl) ⟨Nat.le_of_ble_eq_true rfl, Nat.le_of_ble_eq_true rfl⟩ ⟨Nat.zero_le _, Nat.zero_le _⟩ dX6_copyFrom_19 (fun t4 H locs hp19 hP hS => ?_)
  have gst4 : ∀ k : Int, 72 ≤ k → k ≤ 75 → t4 k = σ k := fun k h1 h2 => by first | (rw [hp19, mRcp_c (by omega)]; done) | (rw [hp19, mRcp_c (by omega)]; exact gst2 k h1 h2)
  refine z_iinc C 2 [1, 2, 0] [(0, .ref (a 32)), (1, .ref (a 64)), (2, .int (iI 2))] hl rfl (by decide) rfl dX6_copyFrom_22 (fun ls hl => ?_)
  refine z_goto C 2 dX6_copyFrom_25 (by decide) ?_
  refine z_iload_n C hl 2 rfl dX6_copyFrom_2 ?_
  refine z_iconst C dX6_copyFrom_3 ?_
  refine z_icmpF_ge C 28 dX6_copyFrom_4 (by decide) ⟨by decide, by decide⟩ ⟨by decide, by decide⟩ (by decide) ?_
  refine z_aload_n C hl 0 rfl dX6_copyFrom_7 ?_
  refine zg32_X6_11 C hP dX6_copyFrom_8 ?_
  refine z_iload_n C hl 2 rfl dX6_copyFrom_11 ?_
  refine z_aldR32 C hP ⟨by omega, by omega⟩ dX6_copyFrom_12 ?_
  rw [show (40 : Int) + 2 = 42 from rfl]
  refine z_aload_n C hl 1 rfl dX6_copyFrom_13 ?_
  refine zg_X6_11 C hP (by unfold zSet; omega) dX6_copyFrom_14 ?_
  rw [show (64 : Int) + 1 = 65 from rfl]
  refine z_iload_n C hl 2 rfl dX6_copyFrom_17 ?_
  refine z_aldR C hP (by omega) ⟨by omega, by omega⟩ dX6_copyFrom_18 ?_
  rw [show (65 : Int) + 7 + 2 = 74 from rfl]
  refine z_vQv hS C hP (As := [.ref (a 74)]) lk_X6_59 (c_X4_copyFrom hI t4 42 74 (by unfold zRid; omega) (by unfold zRid; omega) (by omega) (by first | exact h01 _ (by omega) (by omega) | (rw [gst4 _ (by omega) (by omega)]; exact h01 _ (by omega) (by omega)))) (ob_rid (by unfold zRid; omega)) rfl rfl rfl hl.1 rfl (Nat.le_of_ble_eq_true rfl) ⟨Nat.le_of_ble_eq_true rfl, Nat.le_of_ble_eq_true rfl⟩ ⟨Nat.zero_le _, Nat.zero_le _⟩ dX6_copyFrom_19 (fun t6 H locs hp19 hP hS => ?_)
  have gst6 : ∀ k : Int, 72 ≤ k → k ≤ 75 → t6 k = σ k := fun k h1 h2 => by first | (rw [hp19, mRcp_c (by omega)]; done) | (rw [hp19, mRcp_c (by omega)]; exact gst4 k h1 h2)
  refine z_iinc C 2 [1, 2, 0] [(0, .ref (a 32)), (1, .ref (a 64)), (2, .int (iI 3))] hl rfl (by decide) rfl dX6_copyFrom_22 (fun ls hl => ?_)
  refine z_goto C 2 dX6_copyFrom_25 (by decide) ?_
  refine z_iload_n C hl 2 rfl dX6_copyFrom_2 ?_
  refine z_iconst C dX6_copyFrom_3 ?_
  refine z_icmpF_ge C 28 dX6_copyFrom_4 (by decide) ⟨by decide, by decide⟩ ⟨by decide, by decide⟩ (by decide) ?_
  refine z_aload_n C hl 0 rfl dX6_copyFrom_7 ?_
  refine zg32_X6_11 C hP dX6_copyFrom_8 ?_
  refine z_iload_n C hl 2 rfl dX6_copyFrom_11 ?_
  refine z_aldR32 C hP ⟨by omega, by omega⟩ dX6_copyFrom_12 ?_
  rw [show (40 : Int) + 3 = 43 from rfl]
  refine z_aload_n C hl 1 rfl dX6_copyFrom_13 ?_
  refine zg_X6_11 C hP (by unfold zSet; omega) dX6_copyFrom_14 ?_
  rw [show (64 : Int) + 1 = 65 from rfl]
  refine z_iload_n C hl 2 rfl dX6_copyFrom_17 ?_
  refine z_aldR C hP (by omega) ⟨by omega, by omega⟩ dX6_copyFrom_18 ?_
  rw [show (65 : Int) + 7 + 3 = 75 from rfl]
  refine z_vQv hS C hP (As := [.ref (a 75)]) lk_X6_59 (c_X4_copyFrom hI t6 43 75 (by unfold zRid; omega) (by unfold zRid; omega) (by omega) (by first | exact h01 _ (by omega) (by omega) | (rw [gst6 _ (by omega) (by omega)]; exact h01 _ (by omega) (by omega)))) (ob_rid (by unfold zRid; omega)) rfl rfl rfl hl.1 rfl (Nat.le_of_ble_eq_true rfl) ⟨Nat.le_of_ble_eq_true rfl, Nat.le_of_ble_eq_true rfl⟩ ⟨Nat.zero_le _, Nat.zero_le _⟩ dX6_copyFrom_19 (fun t8 H locs hp19 hP hS => ?_)
  have gst8 : ∀ k : Int, 72 ≤ k → k ≤ 75 → t8 k = σ k := fun k h1 h2 => by first | (rw [hp19, mRcp_c (by omega)]; done) | (rw [hp19, mRcp_c (by omega)]; exact gst6 k h1 h2)
  refine z_iinc C 2 [1, 2, 0] [(0, .ref (a 32)), (1, .ref (a 64)), (2, .int (iI 4))] hl rfl (by decide) rfl dX6_copyFrom_22 (fun ls hl => ?_)
  refine z_goto C 2 dX6_copyFrom_25 (by decide) ?_
  refine z_iload_n C hl 2 rfl dX6_copyFrom_2 ?_
  refine z_iconst C dX6_copyFrom_3 ?_
  refine z_icmpT_ge C 28 dX6_copyFrom_4 (by decide) ⟨by decide, by decide⟩ ⟨by decide, by decide⟩ (by decide) ?_
  refine z_aload_n C hl 1 rfl dX6_copyFrom_28 ?_
  refine zg_X6_17 C hP (by unfold zSet; omega) dX6_copyFrom_29 ?_
  rw [show (64 : Int) + 2 = 66 from rfl]
  refine z_iconst C dX6_copyFrom_32 ?_
  refine z_aload_n C hl 0 rfl dX6_copyFrom_33 ?_
  refine zg32_X6_17 C hP dX6_copyFrom_34 ?_
  refine z_iconst C dX6_copyFrom_37 ?_
  refine z_bipush C (by decide +kernel) dX6_copyFrom_38 ?_
  refine z_acopy C hP hS ia_66 ia_34 (n := 24) ⟨by decide, by decide, by decide⟩ wd_856 hl.1 ⟨(Nat.le_of_ble_eq_true rfl), (Nat.le_of_ble_eq_true rfl)⟩ dX6_copyFrom_40 (fun H locs hP hS => ?_)
  obtain ⟨t9, et9⟩ : ∃ z : zS, z = zCpy t8 66 34 24 := ⟨_, rfl⟩
  rw [← et9] at hP
  refine z_aload_n C hl 1 rfl dX6_copyFrom_43 ?_
  refine zg_X6_21 C hP (by unfold zSet; omega) dX6_copyFrom_44 ?_
  rw [show (64 : Int) + 3 = 67 from rfl]
  refine z_iconst C dX6_copyFrom_47 ?_
  refine z_aload_n C hl 0 rfl dX6_copyFrom_48 ?_
  refine zg32_X6_21 C hP dX6_copyFrom_49 ?_
  refine z_iconst C dX6_copyFrom_52 ?_
  refine z_bipush C (by decide +kernel) dX6_copyFrom_53 ?_
  refine z_acopy C hP hS ia_67 ia_35 (n := 24) ⟨by decide, by decide, by decide⟩ wd_856 hl.1 ⟨(Nat.le_of_ble_eq_true rfl), (Nat.le_of_ble_eq_true rfl)⟩ dX6_copyFrom_55 (fun H locs hP hS => ?_)
  obtain ⟨t10, et10⟩ : ∃ z : zS, z = zCpy t9 67 35 24 := ⟨_, rfl⟩
  rw [← et10] at hP
  refine z_aload_n C hl 1 rfl dX6_copyFrom_58 ?_
  refine zg_X6_24 C hP (by unfold zSet; omega) dX6_copyFrom_59 ?_
  rw [show (64 : Int) + 4 = 68 from rfl]
  refine z_iconst C dX6_copyFrom_62 ?_
  refine z_aload_n C hl 0 rfl dX6_copyFrom_63 ?_
  refine zg32_X6_24 C hP dX6_copyFrom_64 ?_
  refine z_iconst C dX6_copyFrom_67 ?_
  refine z_bipush C (by decide +kernel) dX6_copyFrom_68 ?_
  refine z_acopy C hP hS ia_68 ia_36 (n := 6) ⟨by decide, by decide, by decide⟩ wd_856 hl.1 ⟨(Nat.le_of_ble_eq_true rfl), (Nat.le_of_ble_eq_true rfl)⟩ dX6_copyFrom_70 (fun H locs hP hS => ?_)
  obtain ⟨t11, et11⟩ : ∃ z : zS, z = zCpy t10 68 36 6 := ⟨_, rfl⟩
  rw [← et11] at hP
  refine z_aload_n C hl 1 rfl dX6_copyFrom_73 ?_
  refine zg_X6_27 C hP (by unfold zSet; omega) dX6_copyFrom_74 ?_
  rw [show (64 : Int) + 5 = 69 from rfl]
  refine z_iconst C dX6_copyFrom_77 ?_
  refine z_aload_n C hl 0 rfl dX6_copyFrom_78 ?_
  refine zg32_X6_27 C hP dX6_copyFrom_79 ?_
  refine z_iconst C dX6_copyFrom_82 ?_
  refine z_bipush C (by decide +kernel) dX6_copyFrom_83 ?_
  refine z_acopy C hP hS ia_69 ia_37 (n := 6) ⟨by decide, by decide, by decide⟩ wd_856 hl.1 ⟨(Nat.le_of_ble_eq_true rfl), (Nat.le_of_ble_eq_true rfl)⟩ dX6_copyFrom_85 (fun H locs hP hS => ?_)
  obtain ⟨t12, et12⟩ : ∃ z : zS, z = zCpy t11 69 37 6 := ⟨_, rfl⟩
  rw [← et12] at hP
  refine z_aload_n C hl 1 rfl dX6_copyFrom_88 ?_
  refine zg_X6_30 C hP (by unfold zSet; omega) dX6_copyFrom_89 ?_
  rw [show (64 : Int) + 6 = 70 from rfl]
  refine z_iconst C dX6_copyFrom_92 ?_
  refine z_aload_n C hl 0 rfl dX6_copyFrom_93 ?_
  refine zg32_X6_30 C hP dX6_copyFrom_94 ?_
  refine z_iconst C dX6_copyFrom_97 ?_
  refine z_bipush C (by decide +kernel) dX6_copyFrom_98 ?_
  refine z_acopy C hP hS ia_70 ia_38 (n := 6) ⟨by decide, by decide, by decide⟩ wd_856 hl.1 ⟨(Nat.le_of_ble_eq_true rfl), (Nat.le_of_ble_eq_true rfl)⟩ dX6_copyFrom_100 (fun H locs hP hS => ?_)
  obtain ⟨t13, et13⟩ : ∃ z : zS, z = zCpy t12 70 38 6 := ⟨_, rfl⟩
  rw [← et13] at hP
  refine z_aload_n C hl 1 rfl dX6_copyFrom_103 ?_
  refine zg_X6_33 C hP (by unfold zSet; omega) dX6_copyFrom_104 ?_
  rw [show (64 : Int) + 7 = 71 from rfl]
  refine z_iconst C dX6_copyFrom_107 ?_
  refine z_aload_n C hl 0 rfl dX6_copyFrom_108 ?_
  refine zg32_X6_33 C hP dX6_copyFrom_109 ?_
  refine z_iconst C dX6_copyFrom_112 ?_
  refine z_bipush C (by decide +kernel) dX6_copyFrom_113 ?_
  refine z_acopy C hP hS ia_71 ia_39 (n := 6) ⟨by decide, by decide, by decide⟩ wd_856 hl.1 ⟨(Nat.le_of_ble_eq_true rfl), (Nat.le_of_ble_eq_true rfl)⟩ dX6_copyFrom_115 (fun H locs hP hS => ?_)
  obtain ⟨t14, et14⟩ : ∃ z : zS, z = zCpy t13 71 39 6 := ⟨_, rfl⟩
  rw [← et14] at hP
  refine z_aload_n C hl 0 rfl dX6_copyFrom_118 ?_
  refine z_aload_n C hl 1 rfl dX6_copyFrom_119 ?_
  refine zg_X6_36 C hP (by unfold zSet; omega) dX6_copyFrom_120 ?_
  refine zp32_X6_36 C hP hS dX6_copyFrom_123 (fun H locs hP hS => ?_)
  obtain ⟨t15, et15⟩ : ∃ z : zS, z = zU t14 32 7 (t14 64 7) := ⟨_, rfl⟩
  rw [← et15] at hP
  refine z_aload_n C hl 0 rfl dX6_copyFrom_126 ?_
  refine z_aload_n C hl 1 rfl dX6_copyFrom_127 ?_
  refine zg_X6_40 C hP (by unfold zSet; omega) dX6_copyFrom_128 ?_
  rw [show t15 64 8 = t14 64 8 from by rw [et15, zU_cell (by decide)]]
  refine zp32_X6_40 C hP hS dX6_copyFrom_131 (fun H locs hP hS => ?_)
  obtain ⟨t16, et16⟩ : ∃ z : zS, z = zU t15 32 8 (t14 64 8) := ⟨_, rfl⟩
  rw [← et16] at hP
  refine z_aload_n C hl 0 rfl dX6_copyFrom_134 ?_
  refine z_aload_n C hl 1 rfl dX6_copyFrom_135 ?_
  refine zg_X6_43 C hP (by unfold zSet; omega) dX6_copyFrom_136 ?_
  rw [show t16 64 9 = t14 64 9 from by rw [et16, zU_cell (by decide), et15, zU_cell (by decide)]]
  refine zp32_X6_43 C hP hS dX6_copyFrom_139 (fun H locs hP hS => ?_)
  obtain ⟨t17, et17⟩ : ∃ z : zS, z = zU t16 32 9 (t14 64 9) := ⟨_, rfl⟩
  rw [← et17] at hP
  refine z_aload_n C hl 0 rfl dX6_copyFrom_142 ?_
  refine z_aload_n C hl 1 rfl dX6_copyFrom_143 ?_
  refine zg_X6_46 C hP (by unfold zSet; omega) dX6_copyFrom_144 ?_
  rw [show t17 64 10 = t14 64 10 from by rw [et17, zU_cell (by decide), et16, zU_cell (by decide), et15, zU_cell (by decide)]]
  refine zp32_X6_46 C hP hS dX6_copyFrom_147 (fun H locs hP hS => ?_)
  obtain ⟨t18, et18⟩ : ∃ z : zS, z = zU t17 32 10 (t14 64 10) := ⟨_, rfl⟩
  rw [← et18] at hP
  refine z_aload_n C hl 0 rfl dX6_copyFrom_150 ?_
  refine z_aload_n C hl 1 rfl dX6_copyFrom_151 ?_
  refine zg_X6_49 C hP (by unfold zSet; omega) dX6_copyFrom_152 ?_
  rw [show t18 64 11 = t14 64 11 from by rw [et18, zU_cell (by decide), et17, zU_cell (by decide), et16, zU_cell (by decide), et15, zU_cell (by decide)]]
  refine zp32_X6_49 C hP hS dX6_copyFrom_155 (fun H locs hP hS => ?_)
  obtain ⟨t19, et19⟩ : ∃ z : zS, z = zU t18 32 11 (t14 64 11) := ⟨_, rfl⟩
  rw [← et19] at hP
  refine z_aload_n C hl 0 rfl dX6_copyFrom_158 ?_
  refine z_aload_n C hl 1 rfl dX6_copyFrom_159 ?_
  refine zg_X6_52 C hP (by unfold zSet; omega) dX6_copyFrom_160 ?_
  rw [show t19 64 12 = t14 64 12 from by rw [et19, zU_cell (by decide), et18, zU_cell (by decide), et17, zU_cell (by decide), et16, zU_cell (by decide), et15, zU_cell (by decide)]]
  refine zp32_X6_52 C hP hS dX6_copyFrom_163 (fun H locs hP hS => ?_)
  obtain ⟨t20, et20⟩ : ∃ z : zS, z = zU t19 32 12 (t14 64 12) := ⟨_, rfl⟩
  rw [← et20] at hP
  refine z_aload_n C hl 0 rfl dX6_copyFrom_166 ?_
  refine z_aload_n C hl 1 rfl dX6_copyFrom_167 ?_
  refine zg_X6_55 C hP (by unfold zSet; omega) dX6_copyFrom_168 ?_
  rw [show t20 64 13 = t14 64 13 from by rw [et20, zU_cell (by decide), et19, zU_cell (by decide), et18, zU_cell (by decide), et17, zU_cell (by decide), et16, zU_cell (by decide), et15, zU_cell (by decide)]]
  refine zp32_X6_55 C hP hS dX6_copyFrom_171 (fun H locs hP hS => ?_)
  obtain ⟨t21, et21⟩ : ∃ z : zS, z = zU t20 32 13 (t14 64 13) := ⟨_, rfl⟩
  rw [← et21] at hP
  exact z_retQv C hP hS hr hlocks (by subst_vars; exact ⟨(fun k hk => by funext j; simp [zU, zCpy, mRcp, (show k ≠ 32 by omega), (show k ≠ 33 by omega), (show k ≠ 34 by omega), (show k ≠ 35 by omega), (show k ≠ 36 by omega), (show k ≠ 37 by omega), (show k ≠ 38 by omega), (show k ≠ 39 by omega), (show k ≠ 40 by omega), (show k ≠ 41 by omega), (show k ≠ 42 by omega), (show k ≠ 43 by omega)]), (fun j h1 h2 => by rcases (by omega : j = 7 ∨ j = 8 ∨ j = 9 ∨ j = 10 ∨ j = 11 ∨ j = 12 ∨ j = 13) with rfl | rfl | rfl | rfl | rfl | rfl | rfl <;> simp [zU, zCpy, mRcp]), (fun j h1 h2 => by simp [zU, zCpy, mRcp, h1, h2]), (fun j h1 h2 => by simp [zU, zCpy, mRcp, h1, h2]), (fun j h1 h2 => by simp [zU, zCpy, mRcp, h1, h2]), (fun j h1 h2 => by simp [zU, zCpy, mRcp, h1, h2]), (fun j h1 h2 => by simp [zU, zCpy, mRcp, h1, h2]), (fun j h1 h2 => by simp [zU, zCpy, mRcp, h1, h2]), (fun j h1 h2 => by rcases (by omega : j = 0 ∨ j = 1 ∨ j = 2 ∨ j = 3 ∨ j = 4) with rfl | rfl | rfl | rfl | rfl <;> simp [zU, zCpy, mRcp]), (fun j h1 h2 => by rcases (by omega : j = 0 ∨ j = 1 ∨ j = 2 ∨ j = 3 ∨ j = 4) with rfl | rfl | rfl | rfl | rfl <;> simp [zU, zCpy, mRcp]), (fun j h1 h2 => by rcases (by omega : j = 0 ∨ j = 1 ∨ j = 2 ∨ j = 3 ∨ j = 4) with rfl | rfl | rfl | rfl | rfl <;> simp [zU, zCpy, mRcp]), (fun j h1 h2 => by rcases (by omega : j = 0 ∨ j = 1 ∨ j = 2 ∨ j = 3 ∨ j = 4) with rfl | rfl | rfl | rfl | rfl <;> simp [zU, zCpy, mRcp])⟩) dX6_copyFrom_174

set_option maxRecDepth 20000 in
set_option maxHeartbeats 4000000 in
theorem c_X7_image_0 {l : Launch} {D : va_G} {Y : Nat → ClassId} {a : Int → Nat} (hI : zI a) (σ : zS)  (h01 : ∀ k : Int, 40 ≤ k → k ≤ 43 → σ k 0 = 0 ∨ σ k 0 = 1) : zMet l yX7_image cX7_image 2 (some .int) 2 (zPc D Y a σ [.ref (a 0), .int (iI 0)]) (zQi D Y a (fun r τ => r = 1 ∧ τ 2 0 = 1 ∧ τ 2 1 = σ 2 1 ∧ (∀ k : Int, k ≠ 2 → (k < 48 ∨ 59 < k) → τ k = σ k) ∧ (∀ j : Int, 7 ≤ j → j ≤ 13 → τ 48 j = σ 32 j) ∧ (∀ j : Int, 0 ≤ j → j < 24 → τ 50 j = σ 34 j) ∧ (∀ j : Int, 0 ≤ j → j < 24 → τ 51 j = σ 35 j) ∧ (∀ j : Int, 0 ≤ j → j < 6 → τ 52 j = σ 36 j) ∧ (∀ j : Int, 0 ≤ j → j < 6 → τ 53 j = σ 37 j) ∧ (∀ j : Int, 0 ≤ j → j < 6 → τ 54 j = σ 38 j) ∧ (∀ j : Int, 0 ≤ j → j < 6 → τ 55 j = σ 39 j) ∧ (∀ j : Int, 0 ≤ j → j ≤ 4 → τ 56 j = σ 40 j) ∧ (∀ j : Int, 0 ≤ j → j ≤ 4 → τ 57 j = σ 41 j) ∧ (∀ j : Int, 0 ≤ j → j ≤ 4 → τ 58 j = σ 42 j) ∧ (∀ j : Int, 0 ≤ j → j ≤ 4 → τ 59 j = σ 43 j))) (inA a) := by
  refine z_start rfl (Nat.le_of_ble_eq_true rfl) hI ?_
  intro p e s m below meth c ls C hr hlocks hl hP
  have hS : va_S (inA a) s.heap s.heap [] := va_S.rf
  have hl : lv_has ls 2 [(0, .ref (a 0)), (1, .int (iI 0))] := hl
  skip
  refine z_iload_n C hl 1 rfl dX7_image_0 ?_
  refine z_iconst C dX7_image_1 ?_
  refine z_iconst C dX7_image_2 ?_
  refine z_sSi C hP (As := [.int (iI 0), .int (iI 0), .int (iI 1)]) lk_X7_52 (c_X7_isWithin hI σ 0 0 1 ⟨by decide, by decide⟩ ⟨by decide, by decide⟩ ⟨by decide, by decide⟩) rfl hl.1 rfl (Nat.le_of_ble_eq_true rfl) ⟨Nat.le_of_ble_eq_true rfl, Nat.le_of_ble_eq_true rfl⟩ ⟨Nat.zero_le _, Nat.zero_le _⟩ dX7_image_3 ?_
  by_cases b_3 : (0 : Int) ≤ (0 : Int) ∧ (0 : Int) ≤ (1 : Int)
  · rw [show (if (0 : Int) ≤ (0 : Int) ∧ (0 : Int) ≤ (1 : Int) then (1 : Int) else 0) = 1 from if_pos b_3]
    refine z_ifT_ne C 12 dX7_image_6 (by decide) ⟨by decide, by decide⟩ (by decide) ?_
    refine z_aload_n C hl 0 rfl dX7_image_12 ?_
    refine zg_X7_16 C hP dX7_image_13 ?_
    refine z_iload_n C hl 1 rfl dX7_image_16 ?_
    refine z_aldS C hP ⟨by omega, by omega⟩ dX7_image_17 ?_
    rw [show (48 : Int) + 16 * 0 = 48 from rfl]
    refine z_aload_n C hl 0 rfl dX7_image_18 ?_
    refine zg_X7_12 C hP dX7_image_19 ?_
    refine z_vQv hS C hP (As := [.ref (a 32)]) lk_X7_267 (c_X6_copyFrom_48_32 hI σ  h01) (ob_set (by unfold zSet; omega)) rfl rfl rfl hl.1 rfl (Nat.le_of_ble_eq_true rfl) ⟨Nat.le_of_ble_eq_true rfl, Nat.le_of_ble_eq_true rfl⟩ ⟨Nat.zero_le _, Nat.zero_le _⟩ dX7_image_22 (fun t2 H locs hp22 hP hS => ?_)
    refine z_aload_n C hl 0 rfl dX7_image_25 ?_
    refine zg_X7_20 C hP dX7_image_26 ?_
    refine z_iload_n C hl 1 rfl dX7_image_29 ?_
    refine z_iconst C dX7_image_30 ?_
    refine z_zast C hP hS za_2 ⟨by omega, by omega⟩ (by omega) dX7_image_31 (fun H locs hP hS => ?_)
    obtain ⟨t3, et3⟩ : ∃ z : zS, z = zU t2 2 0 1 := ⟨_, rfl⟩
    rw [← et3] at hP
    refine z_iconst C dX7_image_32 ?_
    exact z_retQi C hP hS hr hlocks rfl (by subst_vars; obtain ⟨q1, q2, q3, q4, q5, q6, q7, q8, q9, q10, q11, q12⟩ := hp22; exact ⟨rfl, by simp [zU], by rw [zU_place (by decide), q1 2 (by omega)], (fun k hk hq => by rw [zU_cell hk]; exact q1 k hq), (fun j h1 h2 => by rw [zU_cell (by decide)]; exact q2 j h1 h2), (fun j h1 h2 => by rw [zU_cell (by decide)]; exact q3 j h1 h2), (fun j h1 h2 => by rw [zU_cell (by decide)]; exact q4 j h1 h2), (fun j h1 h2 => by rw [zU_cell (by decide)]; exact q5 j h1 h2), (fun j h1 h2 => by rw [zU_cell (by decide)]; exact q6 j h1 h2), (fun j h1 h2 => by rw [zU_cell (by decide)]; exact q7 j h1 h2), (fun j h1 h2 => by rw [zU_cell (by decide)]; exact q8 j h1 h2), (fun j h1 h2 => by rw [zU_cell (by decide)]; exact q9 j h1 h2), (fun j h1 h2 => by rw [zU_cell (by decide)]; exact q10 j h1 h2), (fun j h1 h2 => by rw [zU_cell (by decide)]; exact q11 j h1 h2), (fun j h1 h2 => by rw [zU_cell (by decide)]; exact q12 j h1 h2)⟩) dX7_image_33
  · rw [show (if (0 : Int) ≤ (0 : Int) ∧ (0 : Int) ≤ (1 : Int) then (1 : Int) else 0) = 0 from if_neg b_3]
    refine z_ifF_ne C 12 dX7_image_6 (by decide) ⟨by decide, by decide⟩ (by decide) ?_
    refine z_bipush C (by decide +kernel) dX7_image_9 ?_
    exact z_retQi C hP hS hr hlocks rfl (by exfalso; omega) dX7_image_11

set_option maxRecDepth 20000 in
set_option maxHeartbeats 4000000 in
theorem c_X7_restore_0 {l : Launch} {D : va_G} {Y : Nat → ClassId} {a : Int → Nat} (hI : zI a) (σ : zS)  (h01 : ∀ k : Int, 56 ≤ k → k ≤ 59 → σ k 0 = 0 ∨ σ k 0 = 1) (hk2 : σ 2 0 = 0 ∨ σ 2 0 = 1) : zMet l yX7_restore cX7_restore 2 (some .int) 2 (zPc D Y a σ [.ref (a 0), .int (iI 0)]) (zQi D Y a (fun r τ => (σ 2 0 = 0 → r = -3 ∧ τ = σ) ∧ (σ 2 0 = 1 → r = 1 ∧ (∀ k : Int, (k < 32 ∨ 43 < k) → τ k = σ k) ∧ (∀ j : Int, 7 ≤ j → j ≤ 13 → τ 32 j = σ 48 j) ∧ (∀ j : Int, 0 ≤ j → j < 24 → τ 34 j = σ 50 j) ∧ (∀ j : Int, 0 ≤ j → j < 24 → τ 35 j = σ 51 j) ∧ (∀ j : Int, 0 ≤ j → j < 6 → τ 36 j = σ 52 j) ∧ (∀ j : Int, 0 ≤ j → j < 6 → τ 37 j = σ 53 j) ∧ (∀ j : Int, 0 ≤ j → j < 6 → τ 38 j = σ 54 j) ∧ (∀ j : Int, 0 ≤ j → j < 6 → τ 39 j = σ 55 j) ∧ (∀ j : Int, 0 ≤ j → j ≤ 4 → τ 40 j = σ 56 j) ∧ (∀ j : Int, 0 ≤ j → j ≤ 4 → τ 41 j = σ 57 j) ∧ (∀ j : Int, 0 ≤ j → j ≤ 4 → τ 42 j = σ 58 j) ∧ (∀ j : Int, 0 ≤ j → j ≤ 4 → τ 43 j = σ 59 j)))) (inA a) := by
  refine z_start rfl (Nat.le_of_ble_eq_true rfl) hI ?_
  intro p e s m below meth c ls C hr hlocks hl hP
  have hS : va_S (inA a) s.heap s.heap [] := va_S.rf
  have hl : lv_has ls 2 [(0, .ref (a 0)), (1, .int (iI 0))] := hl
  skip
  refine z_iload_n C hl 1 rfl dX7_restore_0 ?_
  refine z_iconst C dX7_restore_1 ?_
  refine z_iconst C dX7_restore_2 ?_
  refine z_sSi C hP (As := [.int (iI 0), .int (iI 0), .int (iI 1)]) lk_X7_52 (c_X7_isWithin hI σ 0 0 1 ⟨by decide, by decide⟩ ⟨by decide, by decide⟩ ⟨by decide, by decide⟩) rfl hl.1 rfl (Nat.le_of_ble_eq_true rfl) ⟨Nat.le_of_ble_eq_true rfl, Nat.le_of_ble_eq_true rfl⟩ ⟨Nat.zero_le _, Nat.zero_le _⟩ dX7_restore_3 ?_
  by_cases b_3 : (0 : Int) ≤ (0 : Int) ∧ (0 : Int) ≤ (1 : Int)
  · rw [show (if (0 : Int) ≤ (0 : Int) ∧ (0 : Int) ≤ (1 : Int) then (1 : Int) else 0) = 1 from if_pos b_3]
    refine z_ifT_ne C 12 dX7_restore_6 (by decide) ⟨by decide, by decide⟩ (by decide) ?_
    refine z_aload_n C hl 0 rfl dX7_restore_12 ?_
    refine zg_X7_20 C hP dX7_restore_13 ?_
    refine z_iload_n C hl 1 rfl dX7_restore_16 ?_
    refine z_zald C hP za_2 ⟨by omega, by omega⟩ dX7_restore_17 ?_
    refine z_if_ne C 24 dX7_restore_18 (by decide) ⟨by omega, by omega⟩ (fun c_18 => ?_) (fun c_18 => ?_)
    · refine z_aload_n C hl 0 rfl dX7_restore_24 ?_
      refine zg_X7_12 C hP dX7_restore_25 ?_
      refine z_aload_n C hl 0 rfl dX7_restore_28 ?_
      refine zg_X7_16 C hP dX7_restore_29 ?_
      refine z_iload_n C hl 1 rfl dX7_restore_32 ?_
      refine z_aldS C hP ⟨by omega, by omega⟩ dX7_restore_33 ?_
      rw [show (48 : Int) + 16 * 0 = 48 from rfl]
      refine z_vQv hS C hP (As := [.ref (a 48)]) lk_X7_267 (c_X6_copyFrom_32_48 hI σ  h01) (ob_set (by unfold zSet; omega)) rfl rfl rfl hl.1 rfl (Nat.le_of_ble_eq_true rfl) ⟨Nat.le_of_ble_eq_true rfl, Nat.le_of_ble_eq_true rfl⟩ ⟨Nat.zero_le _, Nat.zero_le _⟩ dX7_restore_34 (fun t2 H locs hp34 hP hS => ?_)
      refine z_iconst C dX7_restore_37 ?_
      exact z_retQi C hP hS hr hlocks rfl (by exact ⟨fun h => (by exfalso; omega), fun _ => ⟨rfl, hp34⟩⟩) dX7_restore_38
    · refine z_bipush C (by decide +kernel) dX7_restore_21 ?_
      exact z_retQi C hP hS hr hlocks rfl (by exact ⟨fun _ => ⟨rfl, rfl⟩, fun h => (by exfalso; omega)⟩) dX7_restore_23
  · rw [show (if (0 : Int) ≤ (0 : Int) ∧ (0 : Int) ≤ (1 : Int) then (1 : Int) else 0) = 0 from if_neg b_3]
    refine z_ifF_ne C 12 dX7_restore_6 (by decide) ⟨by decide, by decide⟩ (by decide) ?_
    refine z_bipush C (by decide +kernel) dX7_restore_9 ?_
    exact z_retQi C hP hS hr hlocks rfl (by first | rfl | omega) dX7_restore_11

set_option maxRecDepth 20000 in
set_option maxHeartbeats 4000000 in
theorem c_X7_image_1 {l : Launch} {D : va_G} {Y : Nat → ClassId} {a : Int → Nat} (hI : zI a) (σ : zS)  (h01 : ∀ k : Int, 40 ≤ k → k ≤ 43 → σ k 0 = 0 ∨ σ k 0 = 1) : zMet l yX7_image cX7_image 2 (some .int) 2 (zPc D Y a σ [.ref (a 0), .int (iI 1)]) (zQi D Y a (fun r τ => r = 1 ∧ τ 2 1 = 1 ∧ τ 2 0 = σ 2 0 ∧ (∀ k : Int, k ≠ 2 → (k < 64 ∨ 75 < k) → τ k = σ k) ∧ (∀ j : Int, 7 ≤ j → j ≤ 13 → τ 64 j = σ 32 j) ∧ (∀ j : Int, 0 ≤ j → j < 24 → τ 66 j = σ 34 j) ∧ (∀ j : Int, 0 ≤ j → j < 24 → τ 67 j = σ 35 j) ∧ (∀ j : Int, 0 ≤ j → j < 6 → τ 68 j = σ 36 j) ∧ (∀ j : Int, 0 ≤ j → j < 6 → τ 69 j = σ 37 j) ∧ (∀ j : Int, 0 ≤ j → j < 6 → τ 70 j = σ 38 j) ∧ (∀ j : Int, 0 ≤ j → j < 6 → τ 71 j = σ 39 j) ∧ (∀ j : Int, 0 ≤ j → j ≤ 4 → τ 72 j = σ 40 j) ∧ (∀ j : Int, 0 ≤ j → j ≤ 4 → τ 73 j = σ 41 j) ∧ (∀ j : Int, 0 ≤ j → j ≤ 4 → τ 74 j = σ 42 j) ∧ (∀ j : Int, 0 ≤ j → j ≤ 4 → τ 75 j = σ 43 j))) (inA a) := by
  refine z_start rfl (Nat.le_of_ble_eq_true rfl) hI ?_
  intro p e s m below meth c ls C hr hlocks hl hP
  have hS : va_S (inA a) s.heap s.heap [] := va_S.rf
  have hl : lv_has ls 2 [(0, .ref (a 0)), (1, .int (iI 1))] := hl
  skip
  refine z_iload_n C hl 1 rfl dX7_image_0 ?_
  refine z_iconst C dX7_image_1 ?_
  refine z_iconst C dX7_image_2 ?_
  refine z_sSi C hP (As := [.int (iI 1), .int (iI 0), .int (iI 1)]) lk_X7_52 (c_X7_isWithin hI σ 1 0 1 ⟨by decide, by decide⟩ ⟨by decide, by decide⟩ ⟨by decide, by decide⟩) rfl hl.1 rfl (Nat.le_of_ble_eq_true rfl) ⟨Nat.le_of_ble_eq_true rfl, Nat.le_of_ble_eq_true rfl⟩ ⟨Nat.zero_le _, Nat.zero_le _⟩ dX7_image_3 ?_
  by_cases b_3 : (0 : Int) ≤ (1 : Int) ∧ (1 : Int) ≤ (1 : Int)
  · rw [show (if (0 : Int) ≤ (1 : Int) ∧ (1 : Int) ≤ (1 : Int) then (1 : Int) else 0) = 1 from if_pos b_3]
    refine z_ifT_ne C 12 dX7_image_6 (by decide) ⟨by decide, by decide⟩ (by decide) ?_
    refine z_aload_n C hl 0 rfl dX7_image_12 ?_
    refine zg_X7_16 C hP dX7_image_13 ?_
    refine z_iload_n C hl 1 rfl dX7_image_16 ?_
    refine z_aldS C hP ⟨by omega, by omega⟩ dX7_image_17 ?_
    rw [show (48 : Int) + 16 * 1 = 64 from rfl]
    refine z_aload_n C hl 0 rfl dX7_image_18 ?_
    refine zg_X7_12 C hP dX7_image_19 ?_
    refine z_vQv hS C hP (As := [.ref (a 32)]) lk_X7_267 (c_X6_copyFrom_64_32 hI σ  h01) (ob_set (by unfold zSet; omega)) rfl rfl rfl hl.1 rfl (Nat.le_of_ble_eq_true rfl) ⟨Nat.le_of_ble_eq_true rfl, Nat.le_of_ble_eq_true rfl⟩ ⟨Nat.zero_le _, Nat.zero_le _⟩ dX7_image_22 (fun t2 H locs hp22 hP hS => ?_)
    refine z_aload_n C hl 0 rfl dX7_image_25 ?_
    refine zg_X7_20 C hP dX7_image_26 ?_
    refine z_iload_n C hl 1 rfl dX7_image_29 ?_
    refine z_iconst C dX7_image_30 ?_
    refine z_zast C hP hS za_2 ⟨by omega, by omega⟩ (by omega) dX7_image_31 (fun H locs hP hS => ?_)
    obtain ⟨t3, et3⟩ : ∃ z : zS, z = zU t2 2 1 1 := ⟨_, rfl⟩
    rw [← et3] at hP
    refine z_iconst C dX7_image_32 ?_
    exact z_retQi C hP hS hr hlocks rfl (by subst_vars; obtain ⟨q1, q2, q3, q4, q5, q6, q7, q8, q9, q10, q11, q12⟩ := hp22; exact ⟨rfl, by simp [zU], by rw [zU_place (by decide), q1 2 (by omega)], (fun k hk hq => by rw [zU_cell hk]; exact q1 k hq), (fun j h1 h2 => by rw [zU_cell (by decide)]; exact q2 j h1 h2), (fun j h1 h2 => by rw [zU_cell (by decide)]; exact q3 j h1 h2), (fun j h1 h2 => by rw [zU_cell (by decide)]; exact q4 j h1 h2), (fun j h1 h2 => by rw [zU_cell (by decide)]; exact q5 j h1 h2), (fun j h1 h2 => by rw [zU_cell (by decide)]; exact q6 j h1 h2), (fun j h1 h2 => by rw [zU_cell (by decide)]; exact q7 j h1 h2), (fun j h1 h2 => by rw [zU_cell (by decide)]; exact q8 j h1 h2), (fun j h1 h2 => by rw [zU_cell (by decide)]; exact q9 j h1 h2), (fun j h1 h2 => by rw [zU_cell (by decide)]; exact q10 j h1 h2), (fun j h1 h2 => by rw [zU_cell (by decide)]; exact q11 j h1 h2), (fun j h1 h2 => by rw [zU_cell (by decide)]; exact q12 j h1 h2)⟩) dX7_image_33
  · rw [show (if (0 : Int) ≤ (1 : Int) ∧ (1 : Int) ≤ (1 : Int) then (1 : Int) else 0) = 0 from if_neg b_3]
    refine z_ifF_ne C 12 dX7_image_6 (by decide) ⟨by decide, by decide⟩ (by decide) ?_
    refine z_bipush C (by decide +kernel) dX7_image_9 ?_
    exact z_retQi C hP hS hr hlocks rfl (by exfalso; omega) dX7_image_11

set_option maxRecDepth 20000 in
set_option maxHeartbeats 4000000 in
theorem c_X7_restore_1 {l : Launch} {D : va_G} {Y : Nat → ClassId} {a : Int → Nat} (hI : zI a) (σ : zS)  (h01 : ∀ k : Int, 72 ≤ k → k ≤ 75 → σ k 0 = 0 ∨ σ k 0 = 1) (hk2 : σ 2 1 = 0 ∨ σ 2 1 = 1) : zMet l yX7_restore cX7_restore 2 (some .int) 2 (zPc D Y a σ [.ref (a 0), .int (iI 1)]) (zQi D Y a (fun r τ => (σ 2 1 = 0 → r = -3 ∧ τ = σ) ∧ (σ 2 1 = 1 → r = 1 ∧ (∀ k : Int, (k < 32 ∨ 43 < k) → τ k = σ k) ∧ (∀ j : Int, 7 ≤ j → j ≤ 13 → τ 32 j = σ 64 j) ∧ (∀ j : Int, 0 ≤ j → j < 24 → τ 34 j = σ 66 j) ∧ (∀ j : Int, 0 ≤ j → j < 24 → τ 35 j = σ 67 j) ∧ (∀ j : Int, 0 ≤ j → j < 6 → τ 36 j = σ 68 j) ∧ (∀ j : Int, 0 ≤ j → j < 6 → τ 37 j = σ 69 j) ∧ (∀ j : Int, 0 ≤ j → j < 6 → τ 38 j = σ 70 j) ∧ (∀ j : Int, 0 ≤ j → j < 6 → τ 39 j = σ 71 j) ∧ (∀ j : Int, 0 ≤ j → j ≤ 4 → τ 40 j = σ 72 j) ∧ (∀ j : Int, 0 ≤ j → j ≤ 4 → τ 41 j = σ 73 j) ∧ (∀ j : Int, 0 ≤ j → j ≤ 4 → τ 42 j = σ 74 j) ∧ (∀ j : Int, 0 ≤ j → j ≤ 4 → τ 43 j = σ 75 j)))) (inA a) := by
  refine z_start rfl (Nat.le_of_ble_eq_true rfl) hI ?_
  intro p e s m below meth c ls C hr hlocks hl hP
  have hS : va_S (inA a) s.heap s.heap [] := va_S.rf
  have hl : lv_has ls 2 [(0, .ref (a 0)), (1, .int (iI 1))] := hl
  skip
  refine z_iload_n C hl 1 rfl dX7_restore_0 ?_
  refine z_iconst C dX7_restore_1 ?_
  refine z_iconst C dX7_restore_2 ?_
  refine z_sSi C hP (As := [.int (iI 1), .int (iI 0), .int (iI 1)]) lk_X7_52 (c_X7_isWithin hI σ 1 0 1 ⟨by decide, by decide⟩ ⟨by decide, by decide⟩ ⟨by decide, by decide⟩) rfl hl.1 rfl (Nat.le_of_ble_eq_true rfl) ⟨Nat.le_of_ble_eq_true rfl, Nat.le_of_ble_eq_true rfl⟩ ⟨Nat.zero_le _, Nat.zero_le _⟩ dX7_restore_3 ?_
  by_cases b_3 : (0 : Int) ≤ (1 : Int) ∧ (1 : Int) ≤ (1 : Int)
  · rw [show (if (0 : Int) ≤ (1 : Int) ∧ (1 : Int) ≤ (1 : Int) then (1 : Int) else 0) = 1 from if_pos b_3]
    refine z_ifT_ne C 12 dX7_restore_6 (by decide) ⟨by decide, by decide⟩ (by decide) ?_
    refine z_aload_n C hl 0 rfl dX7_restore_12 ?_
    refine zg_X7_20 C hP dX7_restore_13 ?_
    refine z_iload_n C hl 1 rfl dX7_restore_16 ?_
    refine z_zald C hP za_2 ⟨by omega, by omega⟩ dX7_restore_17 ?_
    refine z_if_ne C 24 dX7_restore_18 (by decide) ⟨by omega, by omega⟩ (fun c_18 => ?_) (fun c_18 => ?_)
    · refine z_aload_n C hl 0 rfl dX7_restore_24 ?_
      refine zg_X7_12 C hP dX7_restore_25 ?_
      refine z_aload_n C hl 0 rfl dX7_restore_28 ?_
      refine zg_X7_16 C hP dX7_restore_29 ?_
      refine z_iload_n C hl 1 rfl dX7_restore_32 ?_
      refine z_aldS C hP ⟨by omega, by omega⟩ dX7_restore_33 ?_
      rw [show (48 : Int) + 16 * 1 = 64 from rfl]
      refine z_vQv hS C hP (As := [.ref (a 64)]) lk_X7_267 (c_X6_copyFrom_32_64 hI σ  h01) (ob_set (by unfold zSet; omega)) rfl rfl rfl hl.1 rfl (Nat.le_of_ble_eq_true rfl) ⟨Nat.le_of_ble_eq_true rfl, Nat.le_of_ble_eq_true rfl⟩ ⟨Nat.zero_le _, Nat.zero_le _⟩ dX7_restore_34 (fun t2 H locs hp34 hP hS => ?_)
      refine z_iconst C dX7_restore_37 ?_
      exact z_retQi C hP hS hr hlocks rfl (by exact ⟨fun h => (by exfalso; omega), fun _ => ⟨rfl, hp34⟩⟩) dX7_restore_38
    · refine z_bipush C (by decide +kernel) dX7_restore_21 ?_
      exact z_retQi C hP hS hr hlocks rfl (by exact ⟨fun _ => ⟨rfl, rfl⟩, fun h => (by exfalso; omega)⟩) dX7_restore_23
  · rw [show (if (0 : Int) ≤ (1 : Int) ∧ (1 : Int) ≤ (1 : Int) then (1 : Int) else 0) = 0 from if_neg b_3]
    refine z_ifF_ne C 12 dX7_restore_6 (by decide) ⟨by decide, by decide⟩ (by decide) ?_
    refine z_bipush C (by decide +kernel) dX7_restore_9 ?_
    exact z_retQi C hP hS hr hlocks rfl (by first | rfl | omega) dX7_restore_11
