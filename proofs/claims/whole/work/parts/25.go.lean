def mRf (σ : zS) (rm i : Int) : Int := if σ 6 i = 0 then (if i = rm then 1 else 0) else 1
def rdW (w0 : Int) (R E : Int → Int) : Nat → Int
  | 0 => w0
  | n + 1 => mWind w0 (if R (n : Int) = 1 then w0 else rdW w0 R E n) (E (n : Int))
def rdH (R G : Int → Int) : Nat → Int
  | 0 => 0
  | n + 1 => mHeat (if R (n : Int) = 1 then 0 else rdH R G n) (G (n : Int))
def rdS (pz : Int) (R T : Int → Int) : Nat → Int
  | 0 => 0
  | n + 1 => (if R (n : Int) = 1 then rdS pz R T n + pz else rdS pz R T n) + T (n : Int)
theorem zt_s {i : Int} (h : 0 ≤ i) : (i + 1).toNat = i.toNat + 1 ∧ (i.toNat : Int) = i := ⟨by omega, by omega⟩
theorem rdW_s (w0 : Int) (R E : Int → Int) {i : Int} (h : 0 ≤ i) : rdW w0 R E (i + 1).toNat = mWind w0 (if R i = 1 then w0 else rdW w0 R E i.toNat) (E i) := by
  rw [(zt_s h).1]
  show mWind w0 (if R (i.toNat : Int) = 1 then w0 else _) (E (i.toNat : Int)) = _
  rw [(zt_s h).2]
theorem rdH_s (R G : Int → Int) {i : Int} (h : 0 ≤ i) : rdH R G (i + 1).toNat = mHeat (if R i = 1 then 0 else rdH R G i.toNat) (G i) := by
  rw [(zt_s h).1]
  show mHeat (if R (i.toNat : Int) = 1 then 0 else _) (G (i.toNat : Int)) = _
  rw [(zt_s h).2]
theorem rdS_s (pz : Int) (R T : Int → Int) {i : Int} (h : 0 ≤ i) : rdS pz R T (i + 1).toNat = (if R i = 1 then rdS pz R T i.toNat + pz else rdS pz R T i.toNat) + T i := by
  rw [(zt_s h).1]
  show (if R (i.toNat : Int) = 1 then _ else _) + T (i.toNat : Int) = _
  rw [(zt_s h).2]
def mWhy (wf wb hot hottest : Int) : Int := if wf < 0 then 1 else if wb < 0 then 2 else if hottest < hot then 3 else -6
theorem mWind_b {w now e : Int} (h1 : 0 ≤ w ∧ w ≤ 9) (h2 : 0 ≤ now ∧ now ≤ 9) (h3 : 0 ≤ e ∧ e ≤ 4) : -2 ≤ mWind w now e ∧ mWind w now e ≤ 9 := by
  unfold mWind
  omega
theorem mHeat_b {h s : Int} (h1 : 0 ≤ h ∧ h ≤ 20) : 0 ≤ mHeat h s ∧ mHeat h s ≤ 25 := by
  unfold mHeat
  repeat' split
  all_goals omega
def kWF (σ : zS) (rm : Int) (n : Nat) : Int := rdW (σ (40 + σ 32 7) 3) (mRf σ rm) (σ 7) n
def kWB (σ : zS) (rm : Int) (n : Nat) : Int := rdW (σ (40 + σ 32 8) 3) (mRf σ rm) (σ 8) n
def kH (σ : zS) (rm : Int) (n : Nat) : Int := rdH (mRf σ rm) (σ 35) n
def kTF (σ : zS) (i : Int) : Int := mTread (σ (40 + σ 32 7) 1) (σ (40 + σ 32 7) 2) (σ 7 i) (σ 9 i)
def kTB (σ : zS) (i : Int) : Int := mTread (σ (40 + σ 32 8) 1) (σ (40 + σ 32 8) 2) (σ 8 i) (σ 9 i)
def kT (σ : zS) (i : Int) : Int := mSec (mHard (σ 35 i)) (kTF σ i + kTB σ i)
def kS (σ : zS) (rm : Int) (n : Nat) : Int := rdS (σ 32 10) (mRf σ rm) (kT σ) n
def kY (σ : zS) (rm i : Int) : Int := mWhy (kWF σ rm (i + 1).toNat) (kWB σ rm (i + 1).toNat) (kH σ rm (i + 1).toNat) (σ 32 9)
def kUf (σ : zS) (i : Int) : Int := if mSec (mHard (σ 35 i)) (kTF σ i + kTB σ i) = mSec (mHard (σ 35 i)) (kTF σ i) then 2 ^ i.toNat else 0
theorem kUf_b (σ : zS) (i : Int) (_ : 0 ≤ i) : kUf σ i = 0 ∨ kUf σ i = 2 ^ i.toNat := by
  unfold kUf
  split
  · exact Or.inr rfl
  · exact Or.inl rfl
theorem mRf_or (σ : zS) (rm i : Int) : (mRf σ rm i = 1 ∧ (σ 6 i ≠ 0 ∨ i = rm)) ∨ (mRf σ rm i = 0 ∧ σ 6 i = 0 ∧ i ≠ rm) := by
  unfold mRf
  repeat' split
  all_goals omega
def mStart (σ : zS) : zS := zU (zU (zU (zU (zU σ 10 4 (-6)) 10 5 (-6)) 10 6 0) 10 7 0) 10 8 0
theorem mStart_c (σ : zS) {k : Int} (h : k ≠ 10) : mStart σ k = σ k := by
  unfold mStart
  rw [zU_cell h, zU_cell h, zU_cell h, zU_cell h, zU_cell h]
def kA (σ τ : zS) (n : Nat) : Prop := τ 10 4 = -6 ∧ τ 10 5 = -6 ∧ τ 10 6 = mSum (kTF σ) n ∧ τ 10 7 = mSum (kTB σ) n ∧ τ 10 8 = mSum (kUf σ) n
def kD (σ τ : zS) (rm n : Int) : Prop := ∀ j : Int, 0 ≤ j → j < n → τ 11 j = kS σ rm (j + 1).toNat ∧ τ 12 j = kWF σ rm (j + 1).toNat ∧ τ 13 j = kWB σ rm (j + 1).toNat ∧ τ 14 j = kH σ rm (j + 1).toNat
def kGo (σ τ : zS) (rm : Int) : Prop := (∀ k : Int, k < 10 ∨ 14 < k → τ k = σ k) ∧ ((∀ j : Int, 0 ≤ j → j < σ 32 12 → kY σ rm j = -6) → kA σ τ (σ 32 12).toNat ∧ kD σ τ rm (σ 32 12)) ∧ (∀ q : Int, 0 ≤ q → q < σ 32 12 → kY σ rm q ≠ -6 → (∀ j : Int, 0 ≤ j → j < q → kY σ rm j = -6) → τ 10 4 = q ∧ τ 10 5 = kY σ rm q)

set_option maxRecDepth 20000 in
set_option maxHeartbeats 4000000 in
theorem c_X3_start {l : Launch} {D : va_G} {Y : Nat → ClassId} {a : Int → Nat} (hI : zI a) (σ : zS)  : zMet l yX3_start cX3_start 1 none 0 (zPc D Y a σ [.ref (a 10)]) (zQv D Y a (fun τ => τ = mStart σ)) (inA a) := by
  refine z_start rfl (Nat.le_of_ble_eq_true rfl) hI ?_
  intro p e s m below meth c ls C hr hlocks hl hP
  have hS : va_S (inA a) s.heap s.heap [] := va_S.rf
  have hl : lv_has ls 1 [(0, .ref (a 10))] := hl
  skip
  refine z_aload_n C hl 0 rfl dX3_start_0 ?_
  refine z_bipush C (by decide +kernel) dX3_start_1 ?_
  refine zp_X3_83 C hP hS dX3_start_3 (fun H locs hP hS => ?_)
  obtain ⟨t1, et1⟩ : ∃ z : zS, z = zU σ 10 4 (-6) := ⟨_, rfl⟩
  rw [← et1] at hP
  refine z_aload_n C hl 0 rfl dX3_start_6 ?_
  refine z_bipush C (by decide +kernel) dX3_start_7 ?_
  refine zp_X3_80 C hP hS dX3_start_9 (fun H locs hP hS => ?_)
  obtain ⟨t2, et2⟩ : ∃ z : zS, z = zU t1 10 5 (-6) := ⟨_, rfl⟩
  rw [← et2] at hP
  refine z_aload_n C hl 0 rfl dX3_start_12 ?_
  refine z_iconst C dX3_start_13 ?_
  refine zp_X3_102 C hP hS dX3_start_14 (fun H locs hP hS => ?_)
  obtain ⟨t3, et3⟩ : ∃ z : zS, z = zU t2 10 6 0 := ⟨_, rfl⟩
  rw [← et3] at hP
  refine z_aload_n C hl 0 rfl dX3_start_17 ?_
  refine z_iconst C dX3_start_18 ?_
  refine zp_X3_105 C hP hS dX3_start_19 (fun H locs hP hS => ?_)
  obtain ⟨t4, et4⟩ : ∃ z : zS, z = zU t3 10 7 0 := ⟨_, rfl⟩
  rw [← et4] at hP
  refine z_aload_n C hl 0 rfl dX3_start_22 ?_
  refine z_iconst C dX3_start_23 ?_
  refine zp_X3_99 C hP hS dX3_start_24 (fun H locs hP hS => ?_)
  obtain ⟨t5, et5⟩ : ∃ z : zS, z = zU t4 10 8 0 := ⟨_, rfl⟩
  rw [← et5] at hP
  exact z_retQv C hP hS hr hlocks (by subst_vars; rfl) dX3_start_27

set_option maxRecDepth 20000 in
set_option maxHeartbeats 4000000 in
theorem c_X3_go {l : Launch} {D : va_G} {Y : Nat → ClassId} {a : Int → Nat} (hI : zI a) (σ : zS) (rm : Int) (hrm : -1 ≤ rm ∧ rm ≤ 24) (hn : 1 ≤ σ 32 12 ∧ σ 32 12 ≤ 24) (hg : ∀ i : Int, 0 ≤ i → i < 24 → -1 ≤ σ 35 i ∧ σ 35 i ≤ 6) (hse : (0 ≤ σ 32 7 ∧ σ 32 7 ≤ 3) ∧ (0 ≤ σ 32 8 ∧ σ 32 8 ≤ 3)) (hrd : ∀ r : Int, 0 ≤ r → r ≤ 3 → (0 ≤ σ (40 + r) 1 ∧ σ (40 + r) 1 ≤ 20) ∧ (0 ≤ σ (40 + r) 2 ∧ σ (40 + r) 2 ≤ 10) ∧ (0 ≤ σ (40 + r) 3 ∧ σ (40 + r) 3 ≤ 9) ∧ (0 ≤ σ (40 + r) 4 ∧ σ (40 + r) 4 ≤ 50)) (hho : 5 ≤ σ 32 9 ∧ σ 32 9 ≤ 20) (hpz : 0 ≤ σ 32 10 ∧ σ 32 10 ≤ 99) (hpl : ∀ i : Int, 0 ≤ i → i < σ 32 12 → (σ 6 i = 0 ∨ σ 6 i = 1) ∧ (0 ≤ σ 7 i ∧ σ 7 i ≤ 4) ∧ (0 ≤ σ 8 i ∧ σ 8 i ≤ 4) ∧ (4 ≤ σ 9 i ∧ σ 9 i ≤ 10)) : zMet l yX3_go cX3_go 15 none 2 (zPc D Y a σ [.ref (a 10), .ref (a 32), .ref (a 5), .int (iI rm)]) (zQv D Y a (fun τ => kGo σ τ rm)) (inA a) := by
  refine z_start rfl (Nat.le_of_ble_eq_true rfl) hI ?_
  intro p e s m below meth c ls C hr hlocks hl hP
  have hS : va_S (inA a) s.heap s.heap [] := va_S.rf
  have hl : lv_has ls 15 [(0, .ref (a 10)), (1, .ref (a 32)), (2, .ref (a 5)), (3, .int (iI rm))] := hl
  have hrf := hrd (σ 32 7) (by omega) (by omega)
  have hrb := hrd (σ 32 8) (by omega) (by omega)
  skip
  refine z_aload_n C hl 1 rfl dX3_go_0 ?_
  refine z_vSr C hP (As := []) lk_X3_24 (c_X6_riderInFront hI σ  hse.1) (ob_set (by unfold zSet; omega)) rfl rfl rfl hl.1 rfl (Nat.le_of_ble_eq_true rfl) ⟨Nat.le_of_ble_eq_true rfl, Nat.le_of_ble_eq_true rfl⟩ ⟨Nat.zero_le _, Nat.zero_le _⟩ dX3_go_1 ?_
  refine z_astore C [1, 2, 3, 4, 0] [(0, .ref (a 10)), (1, .ref (a 32)), (2, .ref (a 5)), (3, .int (iI rm)), (4, .ref (a (40 + σ 32 7)))] hl (by decide) rfl dX3_go_4 (fun ls hl => ?_)
  refine z_aload_n C hl 1 rfl dX3_go_6 ?_
  refine z_vSr C hP (As := []) lk_X3_30 (c_X6_riderInBack hI σ  hse.2) (ob_set (by unfold zSet; omega)) rfl rfl rfl hl.1 rfl (Nat.le_of_ble_eq_true rfl) ⟨Nat.le_of_ble_eq_true rfl, Nat.le_of_ble_eq_true rfl⟩ ⟨Nat.zero_le _, Nat.zero_le _⟩ dX3_go_7 ?_
  refine z_astore C [1, 2, 3, 4, 5, 0] [(0, .ref (a 10)), (1, .ref (a 32)), (2, .ref (a 5)), (3, .int (iI rm)), (4, .ref (a (40 + σ 32 7))), (5, .ref (a (40 + σ 32 8)))] hl (by decide) rfl dX3_go_10 (fun ls hl => ?_)
  refine z_iconst C dX3_go_12 ?_
  refine z_istore C [1, 2, 3, 4, 5, 6, 0] [(0, .ref (a 10)), (1, .ref (a 32)), (2, .ref (a 5)), (3, .int (iI rm)), (4, .ref (a (40 + σ 32 7))), (5, .ref (a (40 + σ 32 8))), (6, .int (iI 0))] hl (by decide) rfl dX3_go_13 (fun ls hl => ?_)
  refine z_aload C hl 4 rfl dX3_go_15 ?_
  refine zg_X3_33 C hP (by unfold zRid; omega) dX3_go_17 ?_
  refine z_topi (fun x1 hx1 => ?_)
  refine z_istore C [1, 2, 3, 4, 5, 6, 7, 0] [(0, .ref (a 10)), (1, .ref (a 32)), (2, .ref (a 5)), (3, .int (iI rm)), (4, .ref (a (40 + σ 32 7))), (5, .ref (a (40 + σ 32 8))), (6, .int (iI 0)), (7, .int (iI x1))] hl (by decide) rfl dX3_go_20 (fun ls hl => ?_)
  refine z_aload C hl 5 rfl dX3_go_22 ?_
  refine zg_X3_33 C hP (by unfold zRid; omega) dX3_go_24 ?_
  refine z_topi (fun x2 hx2 => ?_)
  refine z_istore C [1, 2, 3, 4, 5, 6, 7, 8, 0] [(0, .ref (a 10)), (1, .ref (a 32)), (2, .ref (a 5)), (3, .int (iI rm)), (4, .ref (a (40 + σ 32 7))), (5, .ref (a (40 + σ 32 8))), (6, .int (iI 0)), (7, .int (iI x1)), (8, .int (iI x2))] hl (by decide) rfl dX3_go_27 (fun ls hl => ?_)
  refine z_iconst C dX3_go_29 ?_
  refine z_istore C [1, 2, 3, 4, 5, 6, 7, 8, 9, 0] [(0, .ref (a 10)), (1, .ref (a 32)), (2, .ref (a 5)), (3, .int (iI rm)), (4, .ref (a (40 + σ 32 7))), (5, .ref (a (40 + σ 32 8))), (6, .int (iI 0)), (7, .int (iI x1)), (8, .int (iI x2)), (9, .int (iI 0))] hl (by decide) rfl dX3_go_30 (fun ls hl => ?_)
  refine z_aload_n C hl 0 rfl dX3_go_32 ?_
  refine z_vQv hS C hP (As := []) lk_X3_39 (c_X3_start hI σ  ) ob_10 rfl rfl rfl hl.1 rfl (Nat.le_of_ble_eq_true rfl) ⟨Nat.le_of_ble_eq_true rfl, Nat.le_of_ble_eq_true rfl⟩ ⟨Nat.zero_le _, Nat.zero_le _⟩ dX3_go_33 (fun t4 H locs hp33 hP hS => ?_)
  refine z_iconst C dX3_go_36 ?_
  refine z_istore C [1, 2, 3, 4, 5, 6, 7, 8, 9, 10, 0] [(0, .ref (a 10)), (1, .ref (a 32)), (2, .ref (a 5)), (3, .int (iI rm)), (4, .ref (a (40 + σ 32 7))), (5, .ref (a (40 + σ 32 8))), (6, .int (iI 0)), (7, .int (iI x1)), (8, .int (iI x2)), (9, .int (iI 0)), (10, .int (iI 0))] hl (by decide) rfl dX3_go_37 (fun ls hl => ?_)
  have L_39 : ∀ (n : Nat) (sp : Int) (wf : Int) (wb : Int) (ht : Int) (i : Int) (τ : zS) (H : Heap) (locs : List Loc) (hP : GP D Y a τ H) (hS : va_S (inA a) s.heap H locs) (ls : Array Slot), (0 ≤ i ∧ i ≤ σ 32 12) → (sp = kS σ rm i.toNat) → (wf = kWF σ rm i.toNat) → (wb = kWB σ rm i.toNat) → (ht = kH σ rm i.toNat) → (0 ≤ sp ∧ sp ≤ 341 * i) → (0 ≤ wf ∧ wf ≤ 9) → (0 ≤ wb ∧ wb ≤ 9) → (0 ≤ ht ∧ ht ≤ 20) → (∀ j : Int, 0 ≤ j → j < i → kY σ rm j = -6) → (∀ k : Int, k < 10 ∨ 14 < k → τ k = σ k) → (kA σ τ i.toNat) → (kD σ τ rm i) → ((σ 32 12 - i).toNat) < n → lv_has ls 15 [(0, .ref (a 10)), (1, .ref (a 32)), (2, .ref (a 5)), (3, .int (iI rm)), (4, .ref (a (40 + σ 32 7))), (5, .ref (a (40 + σ 32 8))), (6, .int (iI sp)), (7, .int (iI wf)), (8, .int (iI wb)), (9, .int (iI ht)), (10, .int (iI i))] → W p l e (zR 2) s m ([.ref (a 10), .ref (a 32), .ref (a 5), .int (iI rm)] : List Value).toArray below meth c H locs 0 0 (MQ below (zQv D Y a (fun τ => kGo σ τ rm)) ([.ref (a 10), .ref (a 32), .ref (a 5), .int (iI rm)] : List Value).toArray s 0 0 (inA a)) (F0 m 39 ls []) := by
    intro n
    induction n with
    | zero =>
      intros; omega
    | succ n ih_39 =>
      intro sp wf wb ht i τ H locs hP hS ls ii i6 i7 i8 i9 b6 b7 b8 b9 iY iF iA iD hm hl
      refine z_iload C hl 10 rfl dX3_go_39 ?_
      refine z_aload_n C hl 1 rfl dX3_go_41 ?_
      refine zg32_X3_42 C hP dX3_go_42 ?_
      rw [show τ 32 12 = σ 32 12 from by rw [iF 32 (by omega)]]
      refine z_icmp_ge C 345 dX3_go_45 (by decide) ⟨by omega, by omega⟩ ⟨by omega, by omega⟩ (fun c_45 => ?_) (fun c_45 => ?_)
      · exact z_retQv C hP hS hr hlocks (by exact ⟨iF, fun _ => (by rw [show σ 32 12 = i from (by omega)]; exact ⟨iA, iD⟩), fun q h1 h2 h3 _ => absurd (iY q h1 (by omega)) h3⟩) dX3_go_345
      · have hpi := hpl i (by omega) (by omega)
        have hgi := hg i (by omega) (by omega)
        refine z_aload_n C hl 2 rfl dX3_go_48 ?_
        refine zg_X3_45 C hP dX3_go_49 ?_
        refine z_iload C hl 10 rfl dX3_go_52 ?_
        refine z_zald C hP za_6 ⟨by omega, by omega⟩ dX3_go_54 ?_
        rw [show τ 6 i = σ 6 i from by rw [iF 6 (by omega)]]
        have J_90 : ∀ (v5 : Int) (v6 : Int) (v7 : Int) (v8 : Int) (ls : Array Slot), v5 = (if (σ 6 i) = 0 then (if i = rm then sp + (σ 32 10) else sp) else sp + (σ 32 10)) → v6 = (if (σ 6 i) = 0 then (if i = rm then σ (40 + σ 32 7) 3 else wf) else σ (40 + σ 32 7) 3) → v7 = (if (σ 6 i) = 0 then (if i = rm then σ (40 + σ 32 8) 3 else wb) else σ (40 + σ 32 8) 3) → v8 = (if (σ 6 i) = 0 then (if i = rm then 0 else ht) else 0) → lv_has ls 15 [(0, .ref (a 10)), (1, .ref (a 32)), (2, .ref (a 5)), (3, .int (iI rm)), (4, .ref (a (40 + σ 32 7))), (5, .ref (a (40 + σ 32 8))), (6, .int (iI v5)), (7, .int (iI v6)), (8, .int (iI v7)), (9, .int (iI v8)), (10, .int (iI i))] → W p l e (zR 2) s m ([.ref (a 10), .ref (a 32), .ref (a 5), .int (iI rm)] : List Value).toArray below meth c H locs 0 0 (MQ below (zQv D Y a (fun τ => kGo σ τ rm)) ([.ref (a 10), .ref (a 32), .ref (a 5), .int (iI rm)] : List Value).toArray s 0 0 (inA a)) (F0 m 90 ls []) := by
          intro v5 v6 v7 v8 ls hv5 hv6 hv7 hv8 hl
          have hR := mRf_or σ rm i
          have k6 : v5 = if mRf σ rm i = 1 then sp + σ 32 10 else sp := by rw [hv5]; repeat' split; all_goals omega
          have k7 : v6 = if mRf σ rm i = 1 then σ (40 + σ 32 7) 3 else wf := by rw [hv6]; repeat' split; all_goals omega
          have k8 : v7 = if mRf σ rm i = 1 then σ (40 + σ 32 8) 3 else wb := by rw [hv7]; repeat' split; all_goals omega
          have k9 : v8 = if mRf σ rm i = 1 then 0 else ht := by rw [hv8]; repeat' split; all_goals omega
          have z6 : 0 ≤ v5 ∧ v5 ≤ sp + 99 := by rw [k6]; split; all_goals omega
          have z7 : 0 ≤ v6 ∧ v6 ≤ 9 := by rw [k7]; split; all_goals omega
          have z8 : 0 ≤ v7 ∧ v7 ≤ 9 := by rw [k8]; split; all_goals omega
          have z9 : 0 ≤ v8 ∧ v8 ≤ 20 := by rw [k9]; split; all_goals omega
          refine z_aload C hl 4 rfl dX3_go_90 ?_
          refine zg_X3_33 C hP (by unfold zRid; omega) dX3_go_92 ?_
          rw [show τ (40 + σ 32 7) 3 = σ (40 + σ 32 7) 3 from by rw [iF (40 + σ 32 7) (by omega)]]
          refine z_iload C hl 7 rfl dX3_go_95 ?_
          refine z_aload_n C hl 2 rfl dX3_go_97 ?_
          refine zg_X3_54 C hP dX3_go_98 ?_
          refine z_iload C hl 10 rfl dX3_go_101 ?_
          refine z_iald C hP ia_7 ⟨by omega, by omega⟩ dX3_go_103 ?_
          rw [show τ 7 i = σ 7 i from by rw [iF 7 (by omega)]]
          refine z_sSi C hP (As := [.int (iI (σ (40 + σ 32 7) 3)), .int (iI v6), .int (iI (σ 7 i))]) lk_X3_57 (c_X4_windBehind hI τ (σ (40 + σ 32 7) 3) v6 (σ 7 i) hrf.2.2.1 (by omega) hpi.2.1) rfl hl.1 rfl (Nat.le_of_ble_eq_true rfl) ⟨Nat.le_of_ble_eq_true rfl, Nat.le_of_ble_eq_true rfl⟩ ⟨Nat.zero_le _, Nat.zero_le _⟩ dX3_go_104 ?_
          have w7 := mWind_b hrf.2.2.1 (by omega : 0 ≤ v6 ∧ v6 ≤ 9) hpi.2.1
          refine z_topi (fun x9 hx9 => ?_)
          refine z_istore C [1, 2, 3, 4, 5, 6, 7, 0, 8, 9, 10] [(0, .ref (a 10)), (1, .ref (a 32)), (2, .ref (a 5)), (3, .int (iI rm)), (4, .ref (a (40 + σ 32 7))), (5, .ref (a (40 + σ 32 8))), (6, .int (iI v5)), (7, .int (iI x9)), (8, .int (iI v7)), (9, .int (iI v8)), (10, .int (iI i))] hl (by decide) rfl dX3_go_107 (fun ls hl => ?_)
          have e7 : x9 = kWF σ rm (i + 1).toNat := by rw [kWF, rdW_s _ _ _ ii.1, ← kWF, ← i7, ← k7]; omega
          have q7 : -2 ≤ x9 ∧ x9 ≤ 9 := by omega
          refine z_aload C hl 5 rfl dX3_go_109 ?_
          refine zg_X3_33 C hP (by unfold zRid; omega) dX3_go_111 ?_
          rw [show τ (40 + σ 32 8) 3 = σ (40 + σ 32 8) 3 from by rw [iF (40 + σ 32 8) (by omega)]]
          refine z_iload C hl 8 rfl dX3_go_114 ?_
          refine z_aload_n C hl 2 rfl dX3_go_116 ?_
          refine zg_X3_61 C hP dX3_go_117 ?_
          refine z_iload C hl 10 rfl dX3_go_120 ?_
          refine z_iald C hP ia_8 ⟨by omega, by omega⟩ dX3_go_122 ?_
          rw [show τ 8 i = σ 8 i from by rw [iF 8 (by omega)]]
          refine z_sSi C hP (As := [.int (iI (σ (40 + σ 32 8) 3)), .int (iI v7), .int (iI (σ 8 i))]) lk_X3_57 (c_X4_windBehind hI τ (σ (40 + σ 32 8) 3) v7 (σ 8 i) hrb.2.2.1 (by omega) hpi.2.2.1) rfl hl.1 rfl (Nat.le_of_ble_eq_true rfl) ⟨Nat.le_of_ble_eq_true rfl, Nat.le_of_ble_eq_true rfl⟩ ⟨Nat.zero_le _, Nat.zero_le _⟩ dX3_go_123 ?_
          have w8 := mWind_b hrb.2.2.1 (by omega : 0 ≤ v7 ∧ v7 ≤ 9) hpi.2.2.1
          refine z_topi (fun x10 hx10 => ?_)
          refine z_istore C [1, 2, 3, 4, 5, 6, 7, 8, 0, 9, 10] [(0, .ref (a 10)), (1, .ref (a 32)), (2, .ref (a 5)), (3, .int (iI rm)), (4, .ref (a (40 + σ 32 7))), (5, .ref (a (40 + σ 32 8))), (6, .int (iI v5)), (7, .int (iI x9)), (8, .int (iI x10)), (9, .int (iI v8)), (10, .int (iI i))] hl (by decide) rfl dX3_go_126 (fun ls hl => ?_)
          have e8 : x10 = kWB σ rm (i + 1).toNat := by rw [kWB, rdW_s _ _ _ ii.1, ← kWB, ← i8, ← k8]; omega
          have q8 : -2 ≤ x10 ∧ x10 ≤ 9 := by omega
          refine z_iload C hl 9 rfl dX3_go_128 ?_
          refine z_aload_n C hl 1 rfl dX3_go_130 ?_
          refine zg32_X3_64 C hP dX3_go_131 ?_
          refine z_iload C hl 10 rfl dX3_go_134 ?_
          refine z_iald C hP ia_35 ⟨by omega, by omega⟩ dX3_go_136 ?_
          rw [show τ 35 i = σ 35 i from by rw [iF 35 (by omega)]]
          refine z_sSi C hP (As := [.int (iI v8), .int (iI (σ 35 i))]) lk_X3_67 (c_X0_heatBehind hI τ v8 (σ 35 i) (by omega) (by omega)) rfl hl.1 rfl (Nat.le_of_ble_eq_true rfl) ⟨Nat.le_of_ble_eq_true rfl, Nat.le_of_ble_eq_true rfl⟩ ⟨Nat.zero_le _, Nat.zero_le _⟩ dX3_go_137 ?_
          have w9 := mHeat_b (s := σ 35 i) (by omega : 0 ≤ v8 ∧ v8 ≤ 20)
          refine z_topi (fun x11 hx11 => ?_)
          refine z_istore C [1, 2, 3, 4, 5, 6, 7, 8, 9, 0, 10] [(0, .ref (a 10)), (1, .ref (a 32)), (2, .ref (a 5)), (3, .int (iI rm)), (4, .ref (a (40 + σ 32 7))), (5, .ref (a (40 + σ 32 8))), (6, .int (iI v5)), (7, .int (iI x9)), (8, .int (iI x10)), (9, .int (iI x11)), (10, .int (iI i))] hl (by decide) rfl dX3_go_140 (fun ls hl => ?_)
          have e9 : x11 = kH σ rm (i + 1).toNat := by rw [kH, rdH_s _ _ ii.1, ← kH, ← i9, ← k9]; omega
          have q9 : 0 ≤ x11 ∧ x11 ≤ 25 := by omega
          refine z_aload_n C hl 0 rfl dX3_go_142 ?_
          refine z_iload C hl 7 rfl dX3_go_143 ?_
          refine z_iload C hl 8 rfl dX3_go_145 ?_
          refine z_iload C hl 9 rfl dX3_go_147 ?_
          refine z_aload_n C hl 1 rfl dX3_go_149 ?_
          refine zg32_X3_73 C hP dX3_go_150 ?_
          rw [show τ 32 9 = σ 32 9 from by rw [iF 32 (by omega)]]
          refine z_sSi C hP (As := [.int (iI x9), .int (iI x10), .int (iI x11), .int (iI (σ 32 9))]) lk_X3_76 (c_X3_reasonAgainst hI τ x9 x10 x11 (σ 32 9) (by omega) (by omega) (by omega) (by omega)) rfl hl.1 rfl (Nat.le_of_ble_eq_true rfl) ⟨Nat.le_of_ble_eq_true rfl, Nat.le_of_ble_eq_true rfl⟩ ⟨Nat.zero_le _, Nat.zero_le _⟩ dX3_go_153 ?_
          rw [show (if x9 < 0 then 1 else if x10 < 0 then 2 else if σ 32 9 < x11 then 3 else -6) = mWhy x9 x10 x11 (σ 32 9) from rfl]
          have hy : kY σ rm i = mWhy x9 x10 x11 (σ 32 9) := by unfold kY; rw [← e7, ← e8, ← e9]
          have hyr : mWhy x9 x10 x11 (σ 32 9) = -6 ∨ (1 ≤ mWhy x9 x10 x11 (σ 32 9) ∧ mWhy x9 x10 x11 (σ 32 9) ≤ 3) := by unfold mWhy; repeat' split; all_goals omega
          have hyq : mWhy x9 x10 x11 (σ 32 9) = -6 → 0 ≤ x9 ∧ 0 ≤ x10 ∧ x11 ≤ σ 32 9 := by unfold mWhy; repeat' split; all_goals omega
          refine zp_X3_80 C hP hS dX3_go_156 (fun H locs hP hS => ?_)
          obtain ⟨t12, et12⟩ : ∃ z : zS, z = zU τ 10 5 (mWhy x9 x10 x11 (σ 32 9)) := ⟨_, rfl⟩
          rw [← et12] at hP
          refine z_aload_n C hl 0 rfl dX3_go_159 ?_
          refine zg_X3_80 C hP dX3_go_160 ?_
          rw [show t12 10 5 = mWhy x9 x10 x11 (σ 32 9) from by rw [et12, zU_same]]
          refine z_bipush C (by decide +kernel) dX3_go_163 ?_
          refine z_icmp_eq C 175 dX3_go_165 (by decide) ⟨by omega, by omega⟩ ⟨by omega, by omega⟩ (fun c_165 => ?_) (fun c_165 => ?_)
          · have eA : t12 (40 + σ 32 7) = σ (40 + σ 32 7) := (by rw [et12, zU_cell (by omega), iF (40 + σ 32 7) (by omega)])
            have eB : t12 (40 + σ 32 8) = σ (40 + σ 32 8) := (by rw [et12, zU_cell (by omega), iF (40 + σ 32 8) (by omega)])
            have tfb := mTread_b hrf.1 hrf.2.1 hpi.2.1 hpi.2.2.2
            have tbb := mTread_b hrb.1 hrb.2.1 hpi.2.2.1 hpi.2.2.2
            refine z_aload C hl 4 rfl dX3_go_175 ?_
            refine z_aload_n C hl 2 rfl dX3_go_177 ?_
            refine zg_X3_54 C hP dX3_go_178 ?_
            refine z_iload C hl 10 rfl dX3_go_181 ?_
            refine z_iald C hP ia_7 ⟨by omega, by omega⟩ dX3_go_183 ?_
            rw [show t12 7 i = σ 7 i from by rw [et12, zU_cell (by decide), iF 7 (by omega)]]
            refine z_aload_n C hl 2 rfl dX3_go_184 ?_
            refine zg_X3_86 C hP dX3_go_185 ?_
            refine z_iload C hl 10 rfl dX3_go_188 ?_
            refine z_iald C hP ia_9 ⟨by omega, by omega⟩ dX3_go_190 ?_
            rw [show t12 9 i = σ 9 i from by rw [et12, zU_cell (by decide), iF 9 (by omega)]]
            refine z_vSi C hP (As := [.int (iI (σ 7 i)), .int (iI (σ 9 i))]) lk_X3_89 (c_X4_treads hI t12 (40 + σ 32 7) (σ 7 i) (σ 9 i) (by unfold zRid; omega) (by rw [eA]; exact hrf.1) (by rw [eA]; exact hrf.2.1) hpi.2.1 hpi.2.2.2) (ob_rid (by unfold zRid; omega)) rfl rfl rfl hl.1 rfl (Nat.le_of_ble_eq_true rfl) ⟨Nat.le_of_ble_eq_true rfl, Nat.le_of_ble_eq_true rfl⟩ ⟨Nat.zero_le _, Nat.zero_le _⟩ dX3_go_191 ?_
            rw [eA]
            refine z_topi (fun x13 hx13 => ?_)
            refine z_istore C [1, 2, 3, 4, 5, 6, 7, 8, 9, 10, 11, 0] [(0, .ref (a 10)), (1, .ref (a 32)), (2, .ref (a 5)), (3, .int (iI rm)), (4, .ref (a (40 + σ 32 7))), (5, .ref (a (40 + σ 32 8))), (6, .int (iI v5)), (7, .int (iI x9)), (8, .int (iI x10)), (9, .int (iI x11)), (10, .int (iI i)), (11, .int (iI x13))] hl (by decide) rfl dX3_go_194 (fun ls hl => ?_)
            refine z_aload C hl 5 rfl dX3_go_196 ?_
            refine z_aload_n C hl 2 rfl dX3_go_198 ?_
            refine zg_X3_61 C hP dX3_go_199 ?_
            refine z_iload C hl 10 rfl dX3_go_202 ?_
            refine z_iald C hP ia_8 ⟨by omega, by omega⟩ dX3_go_204 ?_
            rw [show t12 8 i = σ 8 i from by rw [et12, zU_cell (by decide), iF 8 (by omega)]]
            refine z_aload_n C hl 2 rfl dX3_go_205 ?_
            refine zg_X3_86 C hP dX3_go_206 ?_
            refine z_iload C hl 10 rfl dX3_go_209 ?_
            refine z_iald C hP ia_9 ⟨by omega, by omega⟩ dX3_go_211 ?_
            rw [show t12 9 i = σ 9 i from by rw [et12, zU_cell (by decide), iF 9 (by omega)]]
            refine z_vSi C hP (As := [.int (iI (σ 8 i)), .int (iI (σ 9 i))]) lk_X3_89 (c_X4_treads hI t12 (40 + σ 32 8) (σ 8 i) (σ 9 i) (by unfold zRid; omega) (by rw [eB]; exact hrb.1) (by rw [eB]; exact hrb.2.1) hpi.2.2.1 hpi.2.2.2) (ob_rid (by unfold zRid; omega)) rfl rfl rfl hl.1 rfl (Nat.le_of_ble_eq_true rfl) ⟨Nat.le_of_ble_eq_true rfl, Nat.le_of_ble_eq_true rfl⟩ ⟨Nat.zero_le _, Nat.zero_le _⟩ dX3_go_212 ?_
            rw [eB]
            refine z_topi (fun x14 hx14 => ?_)
            refine z_istore C [1, 2, 3, 4, 5, 6, 7, 8, 9, 10, 11, 12, 0] [(0, .ref (a 10)), (1, .ref (a 32)), (2, .ref (a 5)), (3, .int (iI rm)), (4, .ref (a (40 + σ 32 7))), (5, .ref (a (40 + σ 32 8))), (6, .int (iI v5)), (7, .int (iI x9)), (8, .int (iI x10)), (9, .int (iI x11)), (10, .int (iI i)), (11, .int (iI x13)), (12, .int (iI x14))] hl (by decide) rfl dX3_go_215 (fun ls hl => ?_)
            refine z_aload_n C hl 1 rfl dX3_go_217 ?_
            refine zg32_X3_64 C hP dX3_go_218 ?_
            refine z_iload C hl 10 rfl dX3_go_221 ?_
            refine z_iald C hP ia_35 ⟨by omega, by omega⟩ dX3_go_223 ?_
            rw [show t12 35 i = σ 35 i from by rw [et12, zU_cell (by decide), iF 35 (by omega)]]
            refine z_sSi C hP (As := [.int (iI (σ 35 i))]) lk_X3_92 (c_X0_hardOf hI t12 (σ 35 i) (by omega)) rfl hl.1 rfl (Nat.le_of_ble_eq_true rfl) ⟨Nat.le_of_ble_eq_true rfl, Nat.le_of_ble_eq_true rfl⟩ ⟨Nat.zero_le _, Nat.zero_le _⟩ dX3_go_224 ?_
            have hhb := mHard_b (σ 35 i)
            refine z_iload C hl 11 rfl dX3_go_227 ?_
            refine z_iload C hl 12 rfl dX3_go_229 ?_
            refine z_iadd C dX3_go_231 ?_
            refine z_sSi C hP (As := [.int (iI (mHard (σ 35 i))), .int (iI (x13 + x14))]) lk_X3_96 (c_X0_secondsOf hI t12 (mHard (σ 35 i)) (x13 + x14) (by omega) (by omega)) rfl hl.1 rfl (Nat.le_of_ble_eq_true rfl) ⟨Nat.le_of_ble_eq_true rfl, Nat.le_of_ble_eq_true rfl⟩ ⟨Nat.zero_le _, Nat.zero_le _⟩ dX3_go_232 ?_
            have sb1 := mSec_b (h := mHard (σ 35 i)) (t := x13 + x14) (by omega)
            refine z_topi (fun x15 hx15 => ?_)
            refine z_istore C [1, 2, 3, 4, 5, 6, 7, 8, 9, 10, 11, 12, 13, 0] [(0, .ref (a 10)), (1, .ref (a 32)), (2, .ref (a 5)), (3, .int (iI rm)), (4, .ref (a (40 + σ 32 7))), (5, .ref (a (40 + σ 32 8))), (6, .int (iI v5)), (7, .int (iI x9)), (8, .int (iI x10)), (9, .int (iI x11)), (10, .int (iI i)), (11, .int (iI x13)), (12, .int (iI x14)), (13, .int (iI x15))] hl (by decide) rfl dX3_go_235 (fun ls hl => ?_)
            refine z_aload_n C hl 1 rfl dX3_go_237 ?_
            refine zg32_X3_64 C hP dX3_go_238 ?_
            refine z_iload C hl 10 rfl dX3_go_241 ?_
            refine z_iald C hP ia_35 ⟨by omega, by omega⟩ dX3_go_243 ?_
            rw [show t12 35 i = σ 35 i from by rw [et12, zU_cell (by decide), iF 35 (by omega)]]
            refine z_sSi C hP (As := [.int (iI (σ 35 i))]) lk_X3_92 (c_X0_hardOf hI t12 (σ 35 i) (by omega)) rfl hl.1 rfl (Nat.le_of_ble_eq_true rfl) ⟨Nat.le_of_ble_eq_true rfl, Nat.le_of_ble_eq_true rfl⟩ ⟨Nat.zero_le _, Nat.zero_le _⟩ dX3_go_244 ?_
            refine z_iload C hl 11 rfl dX3_go_247 ?_
            refine z_sSi C hP (As := [.int (iI (mHard (σ 35 i))), .int (iI x13)]) lk_X3_96 (c_X0_secondsOf hI t12 (mHard (σ 35 i)) x13 (by omega) (by omega)) rfl hl.1 rfl (Nat.le_of_ble_eq_true rfl) ⟨Nat.le_of_ble_eq_true rfl, Nat.le_of_ble_eq_true rfl⟩ ⟨Nat.zero_le _, Nat.zero_le _⟩ dX3_go_249 ?_
            have sb2 := mSec_b (h := mHard (σ 35 i)) (t := x13) (by omega)
            refine z_topi (fun x16 hx16 => ?_)
            refine z_istore C [1, 2, 3, 4, 5, 6, 7, 8, 9, 10, 11, 12, 13, 14, 0] [(0, .ref (a 10)), (1, .ref (a 32)), (2, .ref (a 5)), (3, .int (iI rm)), (4, .ref (a (40 + σ 32 7))), (5, .ref (a (40 + σ 32 8))), (6, .int (iI v5)), (7, .int (iI x9)), (8, .int (iI x10)), (9, .int (iI x11)), (10, .int (iI i)), (11, .int (iI x13)), (12, .int (iI x14)), (13, .int (iI x15)), (14, .int (iI x16))] hl (by decide) rfl dX3_go_252 (fun ls hl => ?_)
            have hk11 : x13 = kTF σ i := by unfold kTF; omega
            have hk12 : x14 = kTB σ i := by unfold kTB; omega
            have hk13 : x15 = kT σ i := by rw [kT, ← hk11, ← hk12]; omega
            have hk14 : x16 = mSec (mHard (σ 35 i)) (kTF σ i) := by rw [← hk11]; omega
            have hk15 : x15 = mSec (mHard (σ 35 i)) (kTF σ i + kTB σ i) := hk13
            refine z_iload C hl 13 rfl dX3_go_254 ?_
            refine z_iload C hl 14 rfl dX3_go_256 ?_
            refine z_icmp_ne C 274 dX3_go_258 (by decide) ⟨by omega, by omega⟩ ⟨by omega, by omega⟩ (fun c_258 => ?_) (fun c_258 => ?_)
            · refine z_aload_n C hl 0 rfl dX3_go_274 ?_
              refine z_dup C rfl dX3_go_275 ?_
              refine zg_X3_102 C hP dX3_go_276 ?_
              rw [show t12 10 6 = τ 10 6 from by rw [et12, zU_place (by decide)]]
              refine z_iload C hl 11 rfl dX3_go_279 ?_
              refine z_iadd C dX3_go_281 ?_
              refine zp_X3_102 C hP hS dX3_go_282 (fun H locs hP hS => ?_)
              obtain ⟨t17, et17⟩ : ∃ z : zS, z = zU t12 10 6 ((τ 10 6) + x13) := ⟨_, rfl⟩
              rw [← et17] at hP
              refine z_aload_n C hl 0 rfl dX3_go_285 ?_
              refine z_dup C rfl dX3_go_286 ?_
              refine zg_X3_105 C hP dX3_go_287 ?_
              rw [show t17 10 7 = τ 10 7 from by rw [et17, zU_place (by decide), et12, zU_place (by decide)]]
              refine z_iload C hl 12 rfl dX3_go_290 ?_
              refine z_iadd C dX3_go_292 ?_
              refine zp_X3_105 C hP hS dX3_go_293 (fun H locs hP hS => ?_)
              obtain ⟨t18, et18⟩ : ∃ z : zS, z = zU t17 10 7 ((τ 10 7) + x14) := ⟨_, rfl⟩
              rw [← et18] at hP
              refine z_iload C hl 6 rfl dX3_go_296 ?_
              refine z_iload C hl 13 rfl dX3_go_298 ?_
              refine z_iadd C dX3_go_300 ?_
              refine z_topi (fun x19 hx19 => ?_)
              refine z_istore C [1, 2, 3, 4, 5, 6, 0, 7, 8, 9, 10, 11, 12, 13, 14] [(0, .ref (a 10)), (1, .ref (a 32)), (2, .ref (a 5)), (3, .int (iI rm)), (4, .ref (a (40 + σ 32 7))), (5, .ref (a (40 + σ 32 8))), (6, .int (iI x19)), (7, .int (iI x9)), (8, .int (iI x10)), (9, .int (iI x11)), (10, .int (iI i)), (11, .int (iI x13)), (12, .int (iI x14)), (13, .int (iI x15)), (14, .int (iI x16))] hl (by decide) rfl dX3_go_301 (fun ls hl => ?_)
              have es : x19 = kS σ rm (i + 1).toNat := by rw [kS, rdS_s _ _ _ ii.1, ← kS, ← i6, ← k6, ← hk13]; omega
              refine z_aload_n C hl 0 rfl dX3_go_303 ?_
              refine zg_X3_9 C hP dX3_go_304 ?_
              refine z_iload C hl 10 rfl dX3_go_307 ?_
              refine z_iload C hl 6 rfl dX3_go_309 ?_
              refine z_iast C hP hS ia_11 ⟨by omega, by omega⟩ dX3_go_311 (fun H locs hP hS => ?_)
              obtain ⟨t20, et20⟩ : ∃ z : zS, z = zU t18 11 i x19 := ⟨_, rfl⟩
              rw [← et20] at hP
              refine z_aload_n C hl 0 rfl dX3_go_312 ?_
              refine zg_X3_15 C hP dX3_go_313 ?_
              refine z_iload C hl 10 rfl dX3_go_316 ?_
              refine z_iload C hl 7 rfl dX3_go_318 ?_
              refine z_iast C hP hS ia_12 ⟨by omega, by omega⟩ dX3_go_320 (fun H locs hP hS => ?_)
              obtain ⟨t21, et21⟩ : ∃ z : zS, z = zU t20 12 i x9 := ⟨_, rfl⟩
              rw [← et21] at hP
              refine z_aload_n C hl 0 rfl dX3_go_321 ?_
              refine zg_X3_18 C hP dX3_go_322 ?_
              refine z_iload C hl 10 rfl dX3_go_325 ?_
              refine z_iload C hl 8 rfl dX3_go_327 ?_
              refine z_iast C hP hS ia_13 ⟨by omega, by omega⟩ dX3_go_329 (fun H locs hP hS => ?_)
              obtain ⟨t22, et22⟩ : ∃ z : zS, z = zU t21 13 i x10 := ⟨_, rfl⟩
              rw [← et22] at hP
              refine z_aload_n C hl 0 rfl dX3_go_330 ?_
              refine zg_X3_21 C hP dX3_go_331 ?_
              refine z_iload C hl 10 rfl dX3_go_334 ?_
              refine z_iload C hl 9 rfl dX3_go_336 ?_
              refine z_iast C hP hS ia_14 ⟨by omega, by omega⟩ dX3_go_338 (fun H locs hP hS => ?_)
              obtain ⟨t23, et23⟩ : ∃ z : zS, z = zU t22 14 i x11 := ⟨_, rfl⟩
              rw [← et23] at hP
              refine z_iinc C 10 [1, 2, 3, 4, 5, 6, 7, 8, 9, 10, 0, 11, 12, 13, 14] [(0, .ref (a 10)), (1, .ref (a 32)), (2, .ref (a 5)), (3, .int (iI rm)), (4, .ref (a (40 + σ 32 7))), (5, .ref (a (40 + σ 32 8))), (6, .int (iI x19)), (7, .int (iI x9)), (8, .int (iI x10)), (9, .int (iI x11)), (10, .int (iI (i + 1))), (11, .int (iI x13)), (12, .int (iI x14)), (13, .int (iI x15)), (14, .int (iI x16))] hl rfl (by decide) rfl dX3_go_339 (fun ls hl => ?_)
              refine z_goto C 39 dX3_go_342 (by decide) ?_
              exact ih_39 x19 x9 x10 x11 (i + 1) t23 H locs hP hS ls (by omega) (by exact es) (by exact e7) (by exact e8) (by exact e9) (by omega) (by omega) (by omega) (by omega) (by intro j h1 h2; exact if hj : j = i then (by subst hj; omega) else iY j h1 (by omega)) (by intro k hk; exact (by rw [et23, zU_cell (by omega), et22, zU_cell (by omega), et21, zU_cell (by omega), et20, zU_cell (by omega), et18, zU_cell (by omega), et17, zU_cell (by omega), et12, zU_cell (by omega), iF k (by omega)])) (by obtain ⟨a4, a5, a6, a7, a8⟩ := iA; rw [kA, mSum_s _ ii.1, mSum_s _ ii.1, mSum_s _ ii.1, ← a6, ← a7, ← a8]; exact ⟨by simp [et23, et22, et21, et20, et18, et17, et12, zU]; omega, by simp [et23, et22, et21, et20, et18, et17, et12, zU]; omega, by simp [et23, et22, et21, et20, et18, et17, et12, zU]; omega, by simp [et23, et22, et21, et20, et18, et17, et12, zU]; omega, by simp [et23, et22, et21, et20, et18, et17, et12, zU]; first | (rw [kUf, if_pos (by omega)]; done) | (rw [kUf, if_neg (by omega)]; omega)⟩) (by intro j h1 h2; exact if hj : j = i then (by subst hj; simp [et23, et22, et21, et20, et18, et17, et12, zU]; exact ⟨es, e7, e8, e9⟩) else (by have hd := iD j h1 (by omega); simp [et23, et22, et21, et20, et18, et17, et12, zU, hj]; exact hd)) (by omega) (lv_sub hl [0, 1, 2, 3, 4, 5, 6, 7, 8, 9, 10] rfl)
            · refine z_aload_n C hl 0 rfl dX3_go_261 ?_
              refine z_dup C rfl dX3_go_262 ?_
              refine zg_X3_99 C hP dX3_go_263 ?_
              rw [show t12 10 8 = τ 10 8 from by rw [et12, zU_place (by decide)]]
              refine z_iconst C dX3_go_266 ?_
              refine z_iload C hl 10 rfl dX3_go_267 ?_
              refine z_ishl C (2 ^ i.toNat) (z_shl1 ⟨by omega, by omega⟩) dX3_go_269 ?_
              refine z_ior C (τ 10 8 + 2 ^ i.toNat) (z_orhi ⟨by omega, by omega⟩ (by rw [iA.2.2.2.2]; exact mBS_b (kUf_b σ) i.toNat)) dX3_go_270 ?_
              refine zp_X3_99 C hP hS dX3_go_271 (fun H locs hP hS => ?_)
              obtain ⟨t24, et24⟩ : ∃ z : zS, z = zU t12 10 8 (τ 10 8 + 2 ^ i.toNat) := ⟨_, rfl⟩
              rw [← et24] at hP
              refine z_aload_n C hl 0 rfl dX3_go_274 ?_
              refine z_dup C rfl dX3_go_275 ?_
              refine zg_X3_102 C hP dX3_go_276 ?_
              rw [show t24 10 6 = τ 10 6 from by rw [et24, zU_place (by decide), et12, zU_place (by decide)]]
              refine z_iload C hl 11 rfl dX3_go_279 ?_
              refine z_iadd C dX3_go_281 ?_
              refine zp_X3_102 C hP hS dX3_go_282 (fun H locs hP hS => ?_)
              obtain ⟨t25, et25⟩ : ∃ z : zS, z = zU t24 10 6 ((τ 10 6) + x13) := ⟨_, rfl⟩
              rw [← et25] at hP
              refine z_aload_n C hl 0 rfl dX3_go_285 ?_
              refine z_dup C rfl dX3_go_286 ?_
              refine zg_X3_105 C hP dX3_go_287 ?_
              rw [show t25 10 7 = τ 10 7 from by rw [et25, zU_place (by decide), et24, zU_place (by decide), et12, zU_place (by decide)]]
              refine z_iload C hl 12 rfl dX3_go_290 ?_
              refine z_iadd C dX3_go_292 ?_
              refine zp_X3_105 C hP hS dX3_go_293 (fun H locs hP hS => ?_)
              obtain ⟨t26, et26⟩ : ∃ z : zS, z = zU t25 10 7 ((τ 10 7) + x14) := ⟨_, rfl⟩
              rw [← et26] at hP
              refine z_iload C hl 6 rfl dX3_go_296 ?_
              refine z_iload C hl 13 rfl dX3_go_298 ?_
              refine z_iadd C dX3_go_300 ?_
              refine z_topi (fun x27 hx27 => ?_)
              refine z_istore C [1, 2, 3, 4, 5, 6, 0, 7, 8, 9, 10, 11, 12, 13, 14] [(0, .ref (a 10)), (1, .ref (a 32)), (2, .ref (a 5)), (3, .int (iI rm)), (4, .ref (a (40 + σ 32 7))), (5, .ref (a (40 + σ 32 8))), (6, .int (iI x27)), (7, .int (iI x9)), (8, .int (iI x10)), (9, .int (iI x11)), (10, .int (iI i)), (11, .int (iI x13)), (12, .int (iI x14)), (13, .int (iI x15)), (14, .int (iI x16))] hl (by decide) rfl dX3_go_301 (fun ls hl => ?_)
              have es : x27 = kS σ rm (i + 1).toNat := by rw [kS, rdS_s _ _ _ ii.1, ← kS, ← i6, ← k6, ← hk13]; omega
              refine z_aload_n C hl 0 rfl dX3_go_303 ?_
              refine zg_X3_9 C hP dX3_go_304 ?_
              refine z_iload C hl 10 rfl dX3_go_307 ?_
              refine z_iload C hl 6 rfl dX3_go_309 ?_
              refine z_iast C hP hS ia_11 ⟨by omega, by omega⟩ dX3_go_311 (fun H locs hP hS => ?_)
              obtain ⟨t28, et28⟩ : ∃ z : zS, z = zU t26 11 i x27 := ⟨_, rfl⟩
              rw [← et28] at hP
              refine z_aload_n C hl 0 rfl dX3_go_312 ?_
              refine zg_X3_15 C hP dX3_go_313 ?_
              refine z_iload C hl 10 rfl dX3_go_316 ?_
              refine z_iload C hl 7 rfl dX3_go_318 ?_
              refine z_iast C hP hS ia_12 ⟨by omega, by omega⟩ dX3_go_320 (fun H locs hP hS => ?_)
              obtain ⟨t29, et29⟩ : ∃ z : zS, z = zU t28 12 i x9 := ⟨_, rfl⟩
              rw [← et29] at hP
              refine z_aload_n C hl 0 rfl dX3_go_321 ?_
              refine zg_X3_18 C hP dX3_go_322 ?_
              refine z_iload C hl 10 rfl dX3_go_325 ?_
              refine z_iload C hl 8 rfl dX3_go_327 ?_
              refine z_iast C hP hS ia_13 ⟨by omega, by omega⟩ dX3_go_329 (fun H locs hP hS => ?_)
              obtain ⟨t30, et30⟩ : ∃ z : zS, z = zU t29 13 i x10 := ⟨_, rfl⟩
              rw [← et30] at hP
              refine z_aload_n C hl 0 rfl dX3_go_330 ?_
              refine zg_X3_21 C hP dX3_go_331 ?_
              refine z_iload C hl 10 rfl dX3_go_334 ?_
              refine z_iload C hl 9 rfl dX3_go_336 ?_
              refine z_iast C hP hS ia_14 ⟨by omega, by omega⟩ dX3_go_338 (fun H locs hP hS => ?_)
              obtain ⟨t31, et31⟩ : ∃ z : zS, z = zU t30 14 i x11 := ⟨_, rfl⟩
              rw [← et31] at hP
              refine z_iinc C 10 [1, 2, 3, 4, 5, 6, 7, 8, 9, 10, 0, 11, 12, 13, 14] [(0, .ref (a 10)), (1, .ref (a 32)), (2, .ref (a 5)), (3, .int (iI rm)), (4, .ref (a (40 + σ 32 7))), (5, .ref (a (40 + σ 32 8))), (6, .int (iI x27)), (7, .int (iI x9)), (8, .int (iI x10)), (9, .int (iI x11)), (10, .int (iI (i + 1))), (11, .int (iI x13)), (12, .int (iI x14)), (13, .int (iI x15)), (14, .int (iI x16))] hl rfl (by decide) rfl dX3_go_339 (fun ls hl => ?_)
              refine z_goto C 39 dX3_go_342 (by decide) ?_
              exact ih_39 x27 x9 x10 x11 (i + 1) t31 H locs hP hS ls (by omega) (by exact es) (by exact e7) (by exact e8) (by exact e9) (by omega) (by omega) (by omega) (by omega) (by intro j h1 h2; exact if hj : j = i then (by subst hj; omega) else iY j h1 (by omega)) (by intro k hk; exact (by rw [et31, zU_cell (by omega), et30, zU_cell (by omega), et29, zU_cell (by omega), et28, zU_cell (by omega), et26, zU_cell (by omega), et25, zU_cell (by omega), et24, zU_cell (by omega), et12, zU_cell (by omega), iF k (by omega)])) (by obtain ⟨a4, a5, a6, a7, a8⟩ := iA; rw [kA, mSum_s _ ii.1, mSum_s _ ii.1, mSum_s _ ii.1, ← a6, ← a7, ← a8]; exact ⟨by simp [et31, et30, et29, et28, et26, et25, et24, et12, zU]; omega, by simp [et31, et30, et29, et28, et26, et25, et24, et12, zU]; omega, by simp [et31, et30, et29, et28, et26, et25, et24, et12, zU]; omega, by simp [et31, et30, et29, et28, et26, et25, et24, et12, zU]; omega, by simp [et31, et30, et29, et28, et26, et25, et24, et12, zU]; first | (rw [kUf, if_pos (by omega)]; done) | (rw [kUf, if_neg (by omega)]; omega)⟩) (by intro j h1 h2; exact if hj : j = i then (by subst hj; simp [et31, et30, et29, et28, et26, et25, et24, et12, zU]; exact ⟨es, e7, e8, e9⟩) else (by have hd := iD j h1 (by omega); simp [et31, et30, et29, et28, et26, et25, et24, et12, zU, hj]; exact hd)) (by omega) (lv_sub hl [0, 1, 2, 3, 4, 5, 6, 7, 8, 9, 10] rfl)
          · refine z_aload_n C hl 0 rfl dX3_go_168 ?_
            refine z_iload C hl 10 rfl dX3_go_169 ?_
            refine zp_X3_83 C hP hS dX3_go_171 (fun H locs hP hS => ?_)
            obtain ⟨t32, et32⟩ : ∃ z : zS, z = zU t12 10 4 i := ⟨_, rfl⟩
            rw [← et32] at hP
            exact z_retQv C hP hS hr hlocks (by exact ⟨(fun k hk => (by rw [et32, zU_cell (by omega), et12, zU_cell (by omega), iF k (by omega)])), fun h => absurd (h i (by omega) (by omega)) (by omega), fun q h1 h2 h3 h4 => (by have hqi : q = i := (by rcases Int.lt_trichotomy q i with h | h | h; exact absurd (iY q h1 h) h3; exact h; exact absurd (h4 i (by omega) h) (by omega)); subst hqi; simp [et32, et12, zU]; omega)⟩) dX3_go_174
        refine z_if_ne C 64 dX3_go_55 (by decide) ⟨by omega, by omega⟩ (fun c_55 => ?_) (fun c_55 => ?_)
        · refine z_iload C hl 6 rfl dX3_go_64 ?_
          refine z_aload_n C hl 1 rfl dX3_go_66 ?_
          refine zg32_X3_51 C hP dX3_go_67 ?_
          rw [show τ 32 10 = σ 32 10 from by rw [iF 32 (by omega)]]
          refine z_iadd C dX3_go_70 ?_
          refine z_topi (fun x33 hx33 => ?_)
          refine z_istore C [1, 2, 3, 4, 5, 6, 0, 7, 8, 9, 10] [(0, .ref (a 10)), (1, .ref (a 32)), (2, .ref (a 5)), (3, .int (iI rm)), (4, .ref (a (40 + σ 32 7))), (5, .ref (a (40 + σ 32 8))), (6, .int (iI x33)), (7, .int (iI wf)), (8, .int (iI wb)), (9, .int (iI ht)), (10, .int (iI i))] hl (by decide) rfl dX3_go_71 (fun ls hl => ?_)
          refine z_aload C hl 4 rfl dX3_go_73 ?_
          refine zg_X3_33 C hP (by unfold zRid; omega) dX3_go_75 ?_
          rw [show τ (40 + σ 32 7) 3 = σ (40 + σ 32 7) 3 from by rw [iF (40 + σ 32 7) (by omega)]]
          refine z_topi (fun x34 hx34 => ?_)
          refine z_istore C [1, 2, 3, 4, 5, 6, 7, 0, 8, 9, 10] [(0, .ref (a 10)), (1, .ref (a 32)), (2, .ref (a 5)), (3, .int (iI rm)), (4, .ref (a (40 + σ 32 7))), (5, .ref (a (40 + σ 32 8))), (6, .int (iI x33)), (7, .int (iI x34)), (8, .int (iI wb)), (9, .int (iI ht)), (10, .int (iI i))] hl (by decide) rfl dX3_go_78 (fun ls hl => ?_)
          refine z_aload C hl 5 rfl dX3_go_80 ?_
          refine zg_X3_33 C hP (by unfold zRid; omega) dX3_go_82 ?_
          rw [show τ (40 + σ 32 8) 3 = σ (40 + σ 32 8) 3 from by rw [iF (40 + σ 32 8) (by omega)]]
          refine z_topi (fun x35 hx35 => ?_)
          refine z_istore C [1, 2, 3, 4, 5, 6, 7, 8, 0, 9, 10] [(0, .ref (a 10)), (1, .ref (a 32)), (2, .ref (a 5)), (3, .int (iI rm)), (4, .ref (a (40 + σ 32 7))), (5, .ref (a (40 + σ 32 8))), (6, .int (iI x33)), (7, .int (iI x34)), (8, .int (iI x35)), (9, .int (iI ht)), (10, .int (iI i))] hl (by decide) rfl dX3_go_85 (fun ls hl => ?_)
          refine z_iconst C dX3_go_87 ?_
          refine z_istore C [1, 2, 3, 4, 5, 6, 7, 8, 9, 0, 10] [(0, .ref (a 10)), (1, .ref (a 32)), (2, .ref (a 5)), (3, .int (iI rm)), (4, .ref (a (40 + σ 32 7))), (5, .ref (a (40 + σ 32 8))), (6, .int (iI x33)), (7, .int (iI x34)), (8, .int (iI x35)), (9, .int (iI 0)), (10, .int (iI i))] hl (by decide) rfl dX3_go_88 (fun ls hl => ?_)
          exact J_90 x33 x34 x35 0 ls (by first | rfl | (rw [if_neg c_55]; done) | (rw [if_neg c_55]; omega)) (by first | rfl | (rw [if_neg c_55]; done) | (rw [if_neg c_55]; omega)) (by first | rfl | (rw [if_neg c_55]; done) | (rw [if_neg c_55]; omega)) (by first | rfl | (rw [if_neg c_55]; done) | (rw [if_neg c_55]; omega)) (lv_sub hl [0, 1, 2, 3, 4, 5, 6, 7, 8, 9, 10] rfl)
        · refine z_iload C hl 10 rfl dX3_go_58 ?_
          refine z_iload_n C hl 3 rfl dX3_go_60 ?_
          refine z_icmp_ne C 90 dX3_go_61 (by decide) ⟨by omega, by omega⟩ ⟨by omega, by omega⟩ (fun c_61 => ?_) (fun c_61 => ?_)
          · exact J_90 sp wf wb ht ls (by first | rfl | (rw [if_pos c_55, if_neg c_61]; done) | (rw [if_pos c_55, if_neg c_61]; omega)) (by first | rfl | (rw [if_pos c_55, if_neg c_61]; done) | (rw [if_pos c_55, if_neg c_61]; omega)) (by first | rfl | (rw [if_pos c_55, if_neg c_61]; done) | (rw [if_pos c_55, if_neg c_61]; omega)) (by first | rfl | (rw [if_pos c_55, if_neg c_61]; done) | (rw [if_pos c_55, if_neg c_61]; omega)) (lv_sub hl [0, 1, 2, 3, 4, 5, 6, 7, 8, 9, 10] rfl)
          · refine z_iload C hl 6 rfl dX3_go_64 ?_
            refine z_aload_n C hl 1 rfl dX3_go_66 ?_
            refine zg32_X3_51 C hP dX3_go_67 ?_
            rw [show τ 32 10 = σ 32 10 from by rw [iF 32 (by omega)]]
            refine z_iadd C dX3_go_70 ?_
            refine z_topi (fun x36 hx36 => ?_)
            refine z_istore C [1, 2, 3, 4, 5, 6, 0, 7, 8, 9, 10] [(0, .ref (a 10)), (1, .ref (a 32)), (2, .ref (a 5)), (3, .int (iI rm)), (4, .ref (a (40 + σ 32 7))), (5, .ref (a (40 + σ 32 8))), (6, .int (iI x36)), (7, .int (iI wf)), (8, .int (iI wb)), (9, .int (iI ht)), (10, .int (iI i))] hl (by decide) rfl dX3_go_71 (fun ls hl => ?_)
            refine z_aload C hl 4 rfl dX3_go_73 ?_
            refine zg_X3_33 C hP (by unfold zRid; omega) dX3_go_75 ?_
            rw [show τ (40 + σ 32 7) 3 = σ (40 + σ 32 7) 3 from by rw [iF (40 + σ 32 7) (by omega)]]
            refine z_topi (fun x37 hx37 => ?_)
            refine z_istore C [1, 2, 3, 4, 5, 6, 7, 0, 8, 9, 10] [(0, .ref (a 10)), (1, .ref (a 32)), (2, .ref (a 5)), (3, .int (iI rm)), (4, .ref (a (40 + σ 32 7))), (5, .ref (a (40 + σ 32 8))), (6, .int (iI x36)), (7, .int (iI x37)), (8, .int (iI wb)), (9, .int (iI ht)), (10, .int (iI i))] hl (by decide) rfl dX3_go_78 (fun ls hl => ?_)
            refine z_aload C hl 5 rfl dX3_go_80 ?_
            refine zg_X3_33 C hP (by unfold zRid; omega) dX3_go_82 ?_
            rw [show τ (40 + σ 32 8) 3 = σ (40 + σ 32 8) 3 from by rw [iF (40 + σ 32 8) (by omega)]]
            refine z_topi (fun x38 hx38 => ?_)
            refine z_istore C [1, 2, 3, 4, 5, 6, 7, 8, 0, 9, 10] [(0, .ref (a 10)), (1, .ref (a 32)), (2, .ref (a 5)), (3, .int (iI rm)), (4, .ref (a (40 + σ 32 7))), (5, .ref (a (40 + σ 32 8))), (6, .int (iI x36)), (7, .int (iI x37)), (8, .int (iI x38)), (9, .int (iI ht)), (10, .int (iI i))] hl (by decide) rfl dX3_go_85 (fun ls hl => ?_)
            refine z_iconst C dX3_go_87 ?_
            refine z_istore C [1, 2, 3, 4, 5, 6, 7, 8, 9, 0, 10] [(0, .ref (a 10)), (1, .ref (a 32)), (2, .ref (a 5)), (3, .int (iI rm)), (4, .ref (a (40 + σ 32 7))), (5, .ref (a (40 + σ 32 8))), (6, .int (iI x36)), (7, .int (iI x37)), (8, .int (iI x38)), (9, .int (iI 0)), (10, .int (iI i))] hl (by decide) rfl dX3_go_88 (fun ls hl => ?_)
            exact J_90 x36 x37 x38 0 ls (by first | rfl | (rw [if_pos c_55, if_pos c_61]; done) | (rw [if_pos c_55, if_pos c_61]; omega)) (by first | rfl | (rw [if_pos c_55, if_pos c_61]; done) | (rw [if_pos c_55, if_pos c_61]; omega)) (by first | rfl | (rw [if_pos c_55, if_pos c_61]; done) | (rw [if_pos c_55, if_pos c_61]; omega)) (by first | rfl | (rw [if_pos c_55, if_pos c_61]; done) | (rw [if_pos c_55, if_pos c_61]; omega)) (lv_sub hl [0, 1, 2, 3, 4, 5, 6, 7, 8, 9, 10] rfl)
  exact L_39 _ 0 x1 x2 0 0 t4 _ _ hP hS ls (by omega) (by rfl) (by show _ = σ (40 + σ 32 7) 3; omega) (by show _ = σ (40 + σ 32 8) 3; omega) (by rfl) (by omega) (by omega) (by omega) (by omega) (by intro j h1 h2; omega) (by intro k hk; rw [hp33]; exact mStart_c σ (by omega)) (by rw [hp33]; exact ⟨by simp [mStart, zU], by simp [mStart, zU], by simp [mStart, zU, mSum], by simp [mStart, zU, mSum], by simp [mStart, zU, mSum]⟩) (by intro j h1 h2; omega) (Nat.lt_succ_self _) (lv_sub hl [0, 1, 2, 3, 4, 5, 6, 7, 8, 9, 10] rfl)
