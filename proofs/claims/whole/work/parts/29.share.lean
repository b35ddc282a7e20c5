theorem kPlan_b {σ : zS} (hn : 1 ≤ σ 32 12 ∧ σ 32 12 ≤ 24) (hse : (0 ≤ σ 32 7 ∧ σ 32 7 ≤ 3) ∧ (0 ≤ σ 32 8 ∧ σ 32 8 ≤ 3)) (hrd : ∀ r : Int, 0 ≤ r → r ≤ 3 → (0 ≤ σ (40 + r) 1 ∧ σ (40 + r) 1 ≤ 20) ∧ (0 ≤ σ (40 + r) 2 ∧ σ (40 + r) 2 ≤ 10) ∧ (0 ≤ σ (40 + r) 3 ∧ σ (40 + r) 3 ≤ 9) ∧ (0 ≤ σ (40 + r) 4 ∧ σ (40 + r) 4 ≤ 50)) (hk : kPl σ) : ∀ i : Int, 0 ≤ i → i < σ 32 12 → (0 ≤ kTF (kRho σ) i ∧ kTF (kRho σ) i ≤ 80) ∧ (0 ≤ kTB (kRho σ) i ∧ kTB (kRho σ) i ≤ 80) := fun i h1 h2 => by
  have o := mRd_ok (by omega) hk (fun i _ => mQ_b (mSg σ) i) i h1 h2
  have e32 : kRho σ 32 = σ 32 := kRho_c σ (by omega)
  have eF : kRho σ (40 + σ 32 7) = σ (40 + σ 32 7) := kRho_c σ (by omega)
  have eB : kRho σ (40 + σ 32 8) = σ (40 + σ 32 8) := kRho_c σ (by omega)
  have e7 : kRho σ 7 i = mEF (mSg σ) i := rfl
  have e8 : kRho σ 8 i = mEB (mSg σ) i := rfl
  have e9 : kRho σ 9 i = mBt (mSg σ) i := rfl
  have rf := hrd (σ 32 7) (by omega) (by omega)
  have rb := hrd (σ 32 8) (by omega) (by omega)
  unfold kTF kTB
  rw [e32, eF, eB, e7, e8, e9]
  exact ⟨mTread_b rf.1 rf.2.1 o.1 o.2.2, mTread_b rb.1 rb.2.1 o.2.1 o.2.2⟩
theorem kSum_b {σ : zS} (hn : 1 ≤ σ 32 12 ∧ σ 32 12 ≤ 24) (hse : (0 ≤ σ 32 7 ∧ σ 32 7 ≤ 3) ∧ (0 ≤ σ 32 8 ∧ σ 32 8 ≤ 3)) (hrd : ∀ r : Int, 0 ≤ r → r ≤ 3 → (0 ≤ σ (40 + r) 1 ∧ σ (40 + r) 1 ≤ 20) ∧ (0 ≤ σ (40 + r) 2 ∧ σ (40 + r) 2 ≤ 10) ∧ (0 ≤ σ (40 + r) 3 ∧ σ (40 + r) 3 ≤ 9) ∧ (0 ≤ σ (40 + r) 4 ∧ σ (40 + r) 4 ≤ 50)) (hpz : 0 ≤ σ 32 10 ∧ σ 32 10 ≤ 99) (hk : kPl σ) : (0 ≤ mSum (kTF (kRho σ)) (σ 32 12).toNat ∧ mSum (kTF (kRho σ)) (σ 32 12).toNat ≤ 1920) ∧ (0 ≤ mSum (kTB (kRho σ)) (σ 32 12).toNat ∧ mSum (kTB (kRho σ)) (σ 32 12).toNat ≤ 1920) ∧ (0 ≤ kS (kRho σ) (-1) (σ 32 12).toNat ∧ kS (kRho σ) (-1) (σ 32 12).toNat ≤ 8184) := by
  have b := kPlan_b hn hse hrd hk
  have h1 := mSum_b (f := kTF (kRho σ)) (A := 80) (n := (σ 32 12).toNat) (fun i h1 h2 => (b i h1 (by omega)).1)
  have h2 := mSum_b (f := kTB (kRho σ)) (A := 80) (n := (σ 32 12).toNat) (fun i h1 h2 => (b i h1 (by omega)).2)
  have e32 : kRho σ 32 = σ 32 := kRho_c σ (by omega)
  have key : ∀ n : Nat, 0 ≤ rdS (σ 32 10) (mRf (kRho σ) (-1)) (kT (kRho σ)) n ∧ rdS (σ 32 10) (mRf (kRho σ) (-1)) (kT (kRho σ)) n ≤ 341 * n := by
    intro n
    induction n with
    | zero => exact ⟨Int.le_refl _, Int.le_refl _⟩
    | succ n ih =>
      have hh := mHard_b (kRho σ 35 n)
      have hs := mSec_b (h := mHard (kRho σ 35 n)) (t := kTF (kRho σ) n + kTB (kRho σ) n) (by omega)
      have ht : kT (kRho σ) n = mSec (mHard (kRho σ 35 n)) (kTF (kRho σ) n + kTB (kRho σ) n) := rfl
      show 0 ≤ (if mRf (kRho σ) (-1) n = 1 then _ + σ 32 10 else _) + kT (kRho σ) n ∧ (if mRf (kRho σ) (-1) n = 1 then _ + σ 32 10 else _) + kT (kRho σ) n ≤ _
      split <;> omega
  have h3 := key (σ 32 12).toNat
  have e : kS (kRho σ) (-1) (σ 32 12).toNat = rdS (σ 32 10) (mRf (kRho σ) (-1)) (kT (kRho σ)) (σ 32 12).toNat := by unfold kS; rw [e32]
  rw [e]
  omega
def mBel (both treads th : Int) : Int := min 100 ((if both = 0 then 0 else 100 * treads / both) + th)
def mQr (above calm : Int) : Nat → Int
  | 0 => 0
  | n + 1 => min 999 (max 0 (mQr above calm n + above - calm))
theorem mQr_s (above calm : Int) {i : Int} (h : 0 ≤ i) : mQr above calm (i + 1).toNat = min 999 (max 0 (mQr above calm i.toNat + above - calm)) := by
  rw [(zt_s h).1]
  rfl
def mYx (seed : Int) : Nat → Int
  | 0 => seed
  | n + 1 => (75 * mYx seed n + 74) % 65537
def mYv (σ : zS) (seed : Int) (i : Int) : Int := mSAB σ (1 + mYx seed (i + 1).toNat % 3) (1 + mYx seed (i + 1).toNat % 3) (4 + mYx seed (i + 1).toNat / 3 % 7)
theorem mYx_s (seed : Int) {i : Int} (h : 0 ≤ i) : mYx seed (i + 1).toNat = (75 * mYx seed i.toNat + 74) % 65537 := by
  rw [(zt_s h).1]
  rfl

theorem mBel_b {both treads th : Int} (h1 : 0 ≤ both) (h2 : 0 ≤ treads) (h3 : 0 ≤ th) : 0 ≤ mBel both treads th ∧ mBel both treads th ≤ 100 := by
  unfold mBel
  by_cases hb : both = 0
  · rw [if_pos hb]
    omega
  · rw [if_neg hb]
    have : 0 ≤ 100 * treads / both := Int.ediv_nonneg (by omega) h1
    omega

set_option maxRecDepth 20000 in
set_option maxHeartbeats 4000000 in
theorem c_X7_share {l : Launch} {D : va_G} {Y : Nat → ClassId} {a : Int → Nat} (hI : zI a) (σ : zS) (pt : Int) (r1 : R3 pt) (hth : ∀ r : Int, 0 ≤ r → r ≤ 3 → σ (40 + r) 0 = 0 ∨ σ (40 + r) 0 = 1) (hn : 1 ≤ σ 32 12 ∧ σ 32 12 ≤ 24) (hg : ∀ i : Int, 0 ≤ i → i < 24 → -1 ≤ σ 35 i ∧ σ 35 i ≤ 6) (hse : (0 ≤ σ 32 7 ∧ σ 32 7 ≤ 3) ∧ (0 ≤ σ 32 8 ∧ σ 32 8 ≤ 3)) (hrd : ∀ r : Int, 0 ≤ r → r ≤ 3 → (0 ≤ σ (40 + r) 1 ∧ σ (40 + r) 1 ≤ 20) ∧ (0 ≤ σ (40 + r) 2 ∧ σ (40 + r) 2 ≤ 10) ∧ (0 ≤ σ (40 + r) 3 ∧ σ (40 + r) 3 ≤ 9) ∧ (0 ≤ σ (40 + r) 4 ∧ σ (40 + r) 4 ≤ 50)) (hho : 5 ≤ σ 32 9 ∧ σ 32 9 ≤ 20) (hpz : 0 ≤ σ 32 10 ∧ σ 32 10 ≤ 99) (hp : 0 ≤ σ 3 1 ∧ σ 3 1 ≤ 110) (hq : ∀ i : Int, 0 ≤ i → i < 110 → 0 ≤ σ 4 i ∧ σ 4 i ≤ 126) : zMet l yX7_share cX7_share 3 (some .long) 5 (zPc D Y a σ [.ref (a 0), .int (iI pt)]) (zQl D Y a (fun r τ => (¬ (σ (40 + σ 32 7) 0 = 1 ∧ σ (40 + σ 32 8) 0 = 1) → r = (-1000000000000000003)) ∧ (σ (40 + σ 32 7) 0 = 1 ∧ σ (40 + σ 32 8) 0 = 1 → ¬ (0 ≤ pt ∧ pt ≤ 1) → r = (-1000000000000000002)) ∧ (σ (40 + σ 32 7) 0 = 1 ∧ σ (40 + σ 32 8) 0 = 1 → 0 ≤ pt ∧ pt ≤ 1 → ¬ (kPl σ ∧ kAll σ) → r = (-1000000000000000005)) ∧ (σ (40 + σ 32 7) 0 = 1 ∧ σ (40 + σ 32 8) 0 = 1 → 0 ≤ pt ∧ pt ≤ 1 → kPl σ → kAll σ → r = if mSum (kTF (kRho σ)) (σ 32 12).toNat + mSum (kTB (kRho σ)) (σ 32 12).toNat = 0 then pt else mFrac (mSum (kTF (kRho σ)) (σ 32 12).toNat) (mSum (kTF (kRho σ)) (σ 32 12).toNat + mSum (kTB (kRho σ)) (σ 32 12).toNat) pt) ∧ (∀ k : Int, k < 6 ∨ 14 < k → τ k = σ k))) (inA a) := by
  refine z_start rfl (Nat.le_of_ble_eq_true rfl) hI ?_
  intro p e s m below meth c ls C hr hlocks hl hP
  have hS : va_S (inA a) s.heap s.heap [] := va_S.rf
  have hl : lv_has ls 3 [(0, .ref (a 0)), (1, .int (iI pt))] := hl
  skip
  refine z_aload_n C hl 0 rfl dX7_share_0 ?_
  refine z_vSi C hP (As := []) lk_X7_122 (c_X7_areSeated hI σ  hth hse) ob_0 rfl rfl rfl hl.1 rfl (Nat.le_of_ble_eq_true rfl) ⟨Nat.le_of_ble_eq_true rfl, Nat.le_of_ble_eq_true rfl⟩ ⟨Nat.zero_le _, Nat.zero_le _⟩ dX7_share_1 ?_
  by_cases b_1 : σ (40 + σ 32 7) 0 = 1 ∧ σ (40 + σ 32 8) 0 = 1
  · rw [show (if σ (40 + σ 32 7) 0 = 1 ∧ σ (40 + σ 32 8) 0 = 1 then (1 : Int) else 0) = 1 from if_pos b_1]
    refine z_ifT_ne C 11 dX7_share_4 (by decide) ⟨by decide, by decide⟩ (by decide) ?_
    refine z_iload_n C hl 1 rfl dX7_share_11 ?_
    refine z_iconst C dX7_share_12 ?_
    refine z_iconst C dX7_share_13 ?_
    refine z_sSi C hP (As := [.int (iI pt), .int (iI 0), .int (iI 1)]) lk_X7_52 (c_X7_isWithin hI σ pt 0 1 r1 ⟨by decide, by decide⟩ ⟨by decide, by decide⟩) rfl hl.1 rfl (Nat.le_of_ble_eq_true rfl) ⟨Nat.le_of_ble_eq_true rfl, Nat.le_of_ble_eq_true rfl⟩ ⟨Nat.zero_le _, Nat.zero_le _⟩ dX7_share_14 ?_
    by_cases b_14 : 0 ≤ pt ∧ pt ≤ 1
    · rw [show (if 0 ≤ pt ∧ pt ≤ 1 then (1 : Int) else 0) = 1 from if_pos b_14]
      refine z_ifT_ne C 24 dX7_share_17 (by decide) ⟨by decide, by decide⟩ (by decide) ?_
      refine z_aload_n C hl 0 rfl dX7_share_24 ?_
      refine z_vQi hS C hP (As := []) lk_X7_136 (c_X7_planIsRidden hI σ  hth hn hg hse hrd hho hpz hp hq) ob_0 rfl rfl rfl hl.1 rfl (Nat.le_of_ble_eq_true rfl) ⟨Nat.le_of_ble_eq_true rfl, Nat.le_of_ble_eq_true rfl⟩ ⟨Nat.zero_le _, Nat.zero_le _⟩ dX7_share_25 (fun r1 t2 H locs hp25 hP hS => ?_)
      have ft2 : ∀ k : Int, k < 6 ∨ 14 < k → t2 k = σ k := hp25.2
      have hr01 : r1 = 0 ∨ r1 = 1 := by rcases hp25.1 with h | h; exact Or.inr h.1; exact Or.inl h.1
      refine z_if_ne C 35 dX7_share_28 (by decide) ⟨by omega, by omega⟩ (fun c_28 => ?_) (fun c_28 => ?_)
      · have hPA : kPl σ ∧ kAll σ ∧ kA (kRho σ) t2 (σ 32 12).toNat ∧ kD (kRho σ) t2 (-1) (σ 32 12) := by rcases hp25.1 with h | h; exact h.2; exact absurd h.1 c_28
        have hkb := kSum_b hn hse hrd hpz hPA.1
        have hA6 := hPA.2.2.1.2.2.1
        have hA7 := hPA.2.2.1.2.2.2.1
        refine z_aload_n C hl 0 rfl dX7_share_35 ?_
        refine zg_X7_41 C hP dX7_share_36 ?_
        refine zg_X7_158 C hP dX7_share_39 ?_
        refine z_aload_n C hl 0 rfl dX7_share_42 ?_
        refine zg_X7_41 C hP dX7_share_43 ?_
        refine zg_X7_161 C hP dX7_share_46 ?_
        refine z_iadd C dX7_share_49 ?_
        refine z_topi (fun x3 hx3 => ?_)
        refine z_istore_n C [1, 2, 0] [(0, .ref (a 0)), (1, .int (iI pt)), (2, .int (iI x3))] hl (by decide) rfl dX7_share_50 (fun ls hl => ?_)
        refine z_iload_n C hl 2 rfl dX7_share_51 ?_
        refine z_if_ne C 58 dX7_share_52 (by decide) ⟨by omega, by omega⟩ (fun c_52 => ?_) (fun c_52 => ?_)
        · refine z_aload_n C hl 0 rfl dX7_share_58 ?_
          refine zg_X7_41 C hP dX7_share_59 ?_
          refine zg_X7_158 C hP dX7_share_62 ?_
          refine z_i2l C ⟨by omega, by omega⟩ dX7_share_65 ?_
          refine z_iload_n C hl 2 rfl dX7_share_66 ?_
          refine z_i2l C ⟨by omega, by omega⟩ dX7_share_67 ?_
          refine z_iload_n C hl 1 rfl dX7_share_68 ?_
          refine z_sSl C hP (As := [.long (jI (t2 10 6)), .long (jI x3), .int (iI pt)]) lk_X7_164 (c_X7_fractionPart hI t2 (t2 10 6) x3 pt (by omega) (by omega) (by omega)) rfl hl.1 rfl (Nat.le_of_ble_eq_true rfl) ⟨Nat.le_of_ble_eq_true rfl, Nat.le_of_ble_eq_true rfl⟩ ⟨Nat.zero_le _, Nat.zero_le _⟩ dX7_share_69 ?_
          exact z_retQl C hP hS hr hlocks (by exact ⟨fun h => absurd b_1 h, fun _ h => (by exfalso; omega), fun _ _ h => absurd ⟨hPA.1, hPA.2.1⟩ h, fun _ _ _ _ => (by rw [if_neg (by omega), ← hA6, ← hA7]; subst_vars; rfl), ft2⟩) dX7_share_72
        · refine z_iload_n C hl 1 rfl dX7_share_55 ?_
          refine z_i2l C ⟨by omega, by omega⟩ dX7_share_56 ?_
          exact z_retQl C hP hS hr hlocks (by exact ⟨fun h => absurd b_1 h, fun _ h => (by exfalso; omega), fun _ _ h => absurd ⟨hPA.1, hPA.2.1⟩ h, fun _ _ _ _ => (by rw [if_pos (by omega)]), ft2⟩) dX7_share_57
      · refine z_ldc2 C (z := (-1000000000000000005)) wd_463 (by decide +kernel) dX7_share_31 ?_
        exact z_retQl C hP hS hr hlocks (by exact ⟨fun h => absurd b_1 h, fun _ h => (by exfalso; omega), fun _ _ _ => rfl, fun _ _ h1 h2 => absurd (And.intro h1 h2) (by rcases hp25.1 with h | h; exact absurd h.1 (by omega); exact h.2), ft2⟩) dX7_share_34
    · rw [show (if 0 ≤ pt ∧ pt ≤ 1 then (1 : Int) else 0) = 0 from if_neg b_14]
      refine z_ifF_ne C 24 dX7_share_17 (by decide) ⟨by decide, by decide⟩ (by decide) ?_
      refine z_ldc2 C (z := (-1000000000000000002)) wd_462 (by decide +kernel) dX7_share_20 ?_
      exact z_retQl C hP hS hr hlocks (by exact ⟨fun h => absurd b_1 h, fun _ _ => rfl, fun _ h => (by exfalso; omega), fun _ h => (by exfalso; omega), fun _ _ => rfl⟩) dX7_share_23
  · rw [show (if σ (40 + σ 32 7) 0 = 1 ∧ σ (40 + σ 32 8) 0 = 1 then (1 : Int) else 0) = 0 from if_neg b_1]
    refine z_ifF_ne C 11 dX7_share_4 (by decide) ⟨by decide, by decide⟩ (by decide) ?_
    refine z_ldc2 C (z := (-1000000000000000003)) wd_461 (by decide +kernel) dX7_share_7 ?_
    exact z_retQl C hP hS hr hlocks (by exact ⟨fun _ => rfl, fun h => absurd h b_1, fun h => absurd h b_1, fun h => absurd h b_1, fun _ _ => rfl⟩) dX7_share_10

set_option maxRecDepth 20000 in
set_option maxHeartbeats 4000000 in
theorem c_X7_believedBy {l : Launch} {D : va_G} {Y : Nat → ClassId} {a : Int → Nat} (hI : zI a) (σ : zS) (k tr : Int) (hk : zRid k) (h4 : 0 ≤ σ k 4 ∧ σ k 4 ≤ 50) (h6 : 0 ≤ σ 10 6 ∧ σ 10 6 ≤ 1920) (h7 : 0 ≤ σ 10 7 ∧ σ 10 7 ≤ 1920) (ht : 0 ≤ tr ∧ tr ≤ 1920) : zMet l yX7_believedBy cX7_believedBy 5 (some .int) 1 (zPc D Y a σ [.ref (a 0), .ref (a k), .int (iI tr)]) (zSi (mBel (σ 10 6 + σ 10 7) tr (σ k 4))) zNo := by
  refine z_start rfl (Nat.le_of_ble_eq_true rfl) hI ?_
  intro p e s m below meth c ls C hr hlocks hl hP
  have hl : lv_has ls 5 [(0, .ref (a 0)), (1, .ref (a k)), (2, .int (iI tr))] := hl
  refine z_aload_n C hl 0 rfl dX7_believedBy_0 ?_
  refine zg_X7_41 C hP dX7_believedBy_1 ?_
  refine zg_X7_158 C hP dX7_believedBy_4 ?_
  refine z_aload_n C hl 0 rfl dX7_believedBy_7 ?_
  refine zg_X7_41 C hP dX7_believedBy_8 ?_
  refine zg_X7_161 C hP dX7_believedBy_11 ?_
  refine z_iadd C dX7_believedBy_14 ?_
  refine z_topi (fun x1 hx1 => ?_)
  refine z_istore_n C [1, 2, 3, 0] [(0, .ref (a 0)), (1, .ref (a k)), (2, .int (iI tr)), (3, .int (iI x1))] hl (by decide) rfl dX7_believedBy_15 (fun ls hl => ?_)
  refine z_iload_n C hl 3 rfl dX7_believedBy_16 ?_
  refine z_if_ne C 24 dX7_believedBy_17 (by decide) ⟨by omega, by omega⟩ (fun c_17 => ?_) (fun c_17 => ?_)
  · refine z_bipush C (by decide +kernel) dX7_believedBy_24 ?_
    refine z_iload_n C hl 2 rfl dX7_believedBy_26 ?_
    refine z_imul C dX7_believedBy_27 ?_
    refine z_iload_n C hl 3 rfl dX7_believedBy_28 ?_
    refine z_idiv C ⟨by omega, by omega, by omega, by omega⟩ dX7_believedBy_29 ?_
    refine z_topi (fun x2 hx2 => ?_)
    refine z_istore C [1, 2, 3, 4, 0] [(0, .ref (a 0)), (1, .ref (a k)), (2, .int (iI tr)), (3, .int (iI x1)), (4, .int (iI x2))] hl (by decide) rfl dX7_believedBy_30 (fun ls hl => ?_)
    have hdv : 0 ≤ x2 ∧ x2 ≤ 192000 := by first | omega | (have hd1 : 0 ≤ 100 * tr / x1 := Int.ediv_nonneg (by omega) (by omega); have hd2 : 100 * tr / x1 ≤ 100 * tr := Int.ediv_le_self _ (by omega); omega)
    refine z_bipush C (by decide +kernel) dX7_believedBy_32 ?_
    refine z_iload C hl 4 rfl dX7_believedBy_34 ?_
    refine z_aload_n C hl 1 rfl dX7_believedBy_36 ?_
    refine zg_X7_289 C hP hk dX7_believedBy_37 ?_
    refine z_iadd C dX7_believedBy_40 ?_
    refine z_min C ⟨by omega, by omega⟩ ⟨by omega, by omega⟩ wd_656 hl.1 ⟨(Nat.le_of_ble_eq_true rfl), (Nat.le_of_ble_eq_true rfl)⟩ ⟨Nat.zero_le _, Nat.zero_le _⟩ dX7_believedBy_41 ?_
    exact z_retSi C hr hlocks rfl (by unfold mBel; first | (rw [if_pos (by omega)]; done) | (rw [if_neg (by omega)]; subst_vars; rfl)) dX7_believedBy_44
  · refine z_iconst C dX7_believedBy_20 ?_
    refine z_goto C 30 dX7_believedBy_21 (by decide) ?_
    refine z_istore C [1, 2, 3, 4, 0] [(0, .ref (a 0)), (1, .ref (a k)), (2, .int (iI tr)), (3, .int (iI x1)), (4, .int (iI 0))] hl (by decide) rfl dX7_believedBy_30 (fun ls hl => ?_)
    have hdv : 0 ≤ 0 ∧ 0 ≤ 192000 := by first | omega | (have hd1 : 0 ≤ 100 * tr / x1 := Int.ediv_nonneg (by omega) (by omega); have hd2 : 100 * tr / x1 ≤ 100 * tr := Int.ediv_le_self _ (by omega); omega)
    refine z_bipush C (by decide +kernel) dX7_believedBy_32 ?_
    refine z_iload C hl 4 rfl dX7_believedBy_34 ?_
    refine z_aload_n C hl 1 rfl dX7_believedBy_36 ?_
    refine zg_X7_289 C hP hk dX7_believedBy_37 ?_
    refine z_iadd C dX7_believedBy_40 ?_
    refine z_min C ⟨by omega, by omega⟩ ⟨by omega, by omega⟩ wd_656 hl.1 ⟨(Nat.le_of_ble_eq_true rfl), (Nat.le_of_ble_eq_true rfl)⟩ ⟨Nat.zero_le _, Nat.zero_le _⟩ dX7_believedBy_41 ?_
    exact z_retSi C hr hlocks rfl (by unfold mBel; first | (rw [if_pos (by omega)]; done) | (rw [if_neg (by omega)]; subst_vars; rfl)) dX7_believedBy_44

set_option maxRecDepth 20000 in
set_option maxHeartbeats 4000000 in
theorem c_X7_quarrel {l : Launch} {D : va_G} {Y : Nat → ClassId} {a : Int → Nat} (hI : zI a) (σ : zS) (n0 : Int) (r1 : R3 n0) (hca : 0 ≤ σ 32 11 ∧ σ 32 11 ≤ 50) (hth : ∀ r : Int, 0 ≤ r → r ≤ 3 → σ (40 + r) 0 = 0 ∨ σ (40 + r) 0 = 1) (hn : 1 ≤ σ 32 12 ∧ σ 32 12 ≤ 24) (hg : ∀ i : Int, 0 ≤ i → i < 24 → -1 ≤ σ 35 i ∧ σ 35 i ≤ 6) (hse : (0 ≤ σ 32 7 ∧ σ 32 7 ≤ 3) ∧ (0 ≤ σ 32 8 ∧ σ 32 8 ≤ 3)) (hrd : ∀ r : Int, 0 ≤ r → r ≤ 3 → (0 ≤ σ (40 + r) 1 ∧ σ (40 + r) 1 ≤ 20) ∧ (0 ≤ σ (40 + r) 2 ∧ σ (40 + r) 2 ≤ 10) ∧ (0 ≤ σ (40 + r) 3 ∧ σ (40 + r) 3 ≤ 9) ∧ (0 ≤ σ (40 + r) 4 ∧ σ (40 + r) 4 ≤ 50)) (hho : 5 ≤ σ 32 9 ∧ σ 32 9 ≤ 20) (hpz : 0 ≤ σ 32 10 ∧ σ 32 10 ≤ 99) (hp : 0 ≤ σ 3 1 ∧ σ 3 1 ≤ 110) (hq : ∀ i : Int, 0 ≤ i → i < 110 → 0 ≤ σ 4 i ∧ σ 4 i ≤ 126) : zMet l yX7_quarrel cX7_quarrel 7 (some .int) 5 (zPc D Y a σ [.ref (a 0), .int (iI n0)]) (zQi D Y a (fun r τ => (¬ (σ (40 + σ 32 7) 0 = 1 ∧ σ (40 + σ 32 8) 0 = 1) → r = -3) ∧ (σ (40 + σ 32 7) 0 = 1 ∧ σ (40 + σ 32 8) 0 = 1 → ¬ (0 ≤ n0 ∧ n0 ≤ 99) → r = -2) ∧ (σ (40 + σ 32 7) 0 = 1 ∧ σ (40 + σ 32 8) 0 = 1 → 0 ≤ n0 ∧ n0 ≤ 99 → ¬ (kPl σ ∧ kAll σ) → r = -5) ∧ (σ (40 + σ 32 7) 0 = 1 ∧ σ (40 + σ 32 8) 0 = 1 → 0 ≤ n0 ∧ n0 ≤ 99 → kPl σ → kAll σ → r = mQr (max 0 (mBel (mSum (kTF (kRho σ)) (σ 32 12).toNat + mSum (kTB (kRho σ)) (σ 32 12).toNat) (mSum (kTF (kRho σ)) (σ 32 12).toNat) (σ (40 + σ 32 7) 4) + mBel (mSum (kTF (kRho σ)) (σ 32 12).toNat + mSum (kTB (kRho σ)) (σ 32 12).toNat) (mSum (kTB (kRho σ)) (σ 32 12).toNat) (σ (40 + σ 32 8) 4) - 100)) (σ 32 11) n0.toNat) ∧ (∀ k : Int, k < 6 ∨ 14 < k → τ k = σ k))) (inA a) := by
  refine z_start rfl (Nat.le_of_ble_eq_true rfl) hI ?_
  intro p e s m below meth c ls C hr hlocks hl hP
  have hS : va_S (inA a) s.heap s.heap [] := va_S.rf
  have hl : lv_has ls 7 [(0, .ref (a 0)), (1, .int (iI n0))] := hl
  have hrf := hrd (σ 32 7) (by omega) (by omega)
  have hrb := hrd (σ 32 8) (by omega) (by omega)
  skip
  refine z_aload_n C hl 0 rfl dX7_quarrel_0 ?_
  refine z_vSi C hP (As := []) lk_X7_122 (c_X7_areSeated hI σ  hth hse) ob_0 rfl rfl rfl hl.1 rfl (Nat.le_of_ble_eq_true rfl) ⟨Nat.le_of_ble_eq_true rfl, Nat.le_of_ble_eq_true rfl⟩ ⟨Nat.zero_le _, Nat.zero_le _⟩ dX7_quarrel_1 ?_
  by_cases b_1 : σ (40 + σ 32 7) 0 = 1 ∧ σ (40 + σ 32 8) 0 = 1
  · rw [show (if σ (40 + σ 32 7) 0 = 1 ∧ σ (40 + σ 32 8) 0 = 1 then (1 : Int) else 0) = 1 from if_pos b_1]
    refine z_ifT_ne C 10 dX7_quarrel_4 (by decide) ⟨by decide, by decide⟩ (by decide) ?_
    refine z_iload_n C hl 1 rfl dX7_quarrel_10 ?_
    refine z_iconst C dX7_quarrel_11 ?_
    refine z_bipush C (by decide +kernel) dX7_quarrel_12 ?_
    refine z_sSi C hP (As := [.int (iI n0), .int (iI 0), .int (iI 99)]) lk_X7_52 (c_X7_isWithin hI σ n0 0 99 r1 ⟨by decide, by decide⟩ ⟨by decide, by decide⟩) rfl hl.1 rfl (Nat.le_of_ble_eq_true rfl) ⟨Nat.le_of_ble_eq_true rfl, Nat.le_of_ble_eq_true rfl⟩ ⟨Nat.zero_le _, Nat.zero_le _⟩ dX7_quarrel_14 ?_
    by_cases b_14 : 0 ≤ n0 ∧ n0 ≤ 99
    · rw [show (if 0 ≤ n0 ∧ n0 ≤ 99 then (1 : Int) else 0) = 1 from if_pos b_14]
      refine z_ifT_ne C 23 dX7_quarrel_17 (by decide) ⟨by decide, by decide⟩ (by decide) ?_
      refine z_aload_n C hl 0 rfl dX7_quarrel_23 ?_
      refine z_vQi hS C hP (As := []) lk_X7_136 (c_X7_planIsRidden hI σ  hth hn hg hse hrd hho hpz hp hq) ob_0 rfl rfl rfl hl.1 rfl (Nat.le_of_ble_eq_true rfl) ⟨Nat.le_of_ble_eq_true rfl, Nat.le_of_ble_eq_true rfl⟩ ⟨Nat.zero_le _, Nat.zero_le _⟩ dX7_quarrel_24 (fun r1 t2 H locs hp24 hP hS => ?_)
      have ft2 : ∀ k : Int, k < 6 ∨ 14 < k → t2 k = σ k := hp24.2
      have hr01 : r1 = 0 ∨ r1 = 1 := by rcases hp24.1 with h | h; exact Or.inr h.1; exact Or.inl h.1
      refine z_if_ne C 33 dX7_quarrel_27 (by decide) ⟨by omega, by omega⟩ (fun c_27 => ?_) (fun c_27 => ?_)
      · have hPA : kPl σ ∧ kAll σ ∧ kA (kRho σ) t2 (σ 32 12).toNat ∧ kD (kRho σ) t2 (-1) (σ 32 12) := by rcases hp24.1 with h | h; exact h.2; exact absurd h.1 c_27
        have hkb := kSum_b hn hse hrd hpz hPA.1
        have hA6 := hPA.2.2.1.2.2.1
        have hA7 := hPA.2.2.1.2.2.2.1
        refine z_aload_n C hl 0 rfl dX7_quarrel_33 ?_
        refine z_aload_n C hl 0 rfl dX7_quarrel_34 ?_
        refine zg_X7_12 C hP dX7_quarrel_35 ?_
        refine z_vSr C hP (As := []) lk_X7_171 (c_X6_riderInFront hI t2  (by rw [ft2 32 (by omega)]; exact hse.1)) (ob_set (by unfold zSet; omega)) rfl rfl rfl hl.1 rfl (Nat.le_of_ble_eq_true rfl) ⟨Nat.le_of_ble_eq_true rfl, Nat.le_of_ble_eq_true rfl⟩ ⟨Nat.zero_le _, Nat.zero_le _⟩ dX7_quarrel_38 ?_
        rw [show t2 32 7 = σ 32 7 from by rw [ft2 32 (by omega)]]
        refine z_aload_n C hl 0 rfl dX7_quarrel_41 ?_
        refine zg_X7_41 C hP dX7_quarrel_42 ?_
        refine zg_X7_158 C hP dX7_quarrel_45 ?_
        refine z_vSi C hP (As := [.ref (a (40 + σ 32 7)), .int (iI (t2 10 6))]) lk_X7_236 (c_X7_believedBy hI t2 (40 + σ 32 7) (t2 10 6) (by unfold zRid; omega) (by rw [ft2 (40 + σ 32 7) (by omega)]; exact hrf.2.2.2) (by omega) (by omega) (by omega)) ob_0 rfl rfl rfl hl.1 rfl (Nat.le_of_ble_eq_true rfl) ⟨Nat.le_of_ble_eq_true rfl, Nat.le_of_ble_eq_true rfl⟩ ⟨Nat.zero_le _, Nat.zero_le _⟩ dX7_quarrel_48 ?_
        rw [ft2 (40 + σ 32 7) (by omega)]
        refine z_topi (fun x3 hx3 => ?_)
        refine z_istore_n C [1, 2, 0] [(0, .ref (a 0)), (1, .int (iI n0)), (2, .int (iI x3))] hl (by decide) rfl dX7_quarrel_51 (fun ls hl => ?_)
        refine z_aload_n C hl 0 rfl dX7_quarrel_52 ?_
        refine z_aload_n C hl 0 rfl dX7_quarrel_53 ?_
        refine zg_X7_12 C hP dX7_quarrel_54 ?_
        refine z_vSr C hP (As := []) lk_X7_175 (c_X6_riderInBack hI t2  (by rw [ft2 32 (by omega)]; exact hse.2)) (ob_set (by unfold zSet; omega)) rfl rfl rfl hl.1 rfl (Nat.le_of_ble_eq_true rfl) ⟨Nat.le_of_ble_eq_true rfl, Nat.le_of_ble_eq_true rfl⟩ ⟨Nat.zero_le _, Nat.zero_le _⟩ dX7_quarrel_57 ?_
        rw [show t2 32 8 = σ 32 8 from by rw [ft2 32 (by omega)]]
        refine z_aload_n C hl 0 rfl dX7_quarrel_60 ?_
        refine zg_X7_41 C hP dX7_quarrel_61 ?_
        refine zg_X7_161 C hP dX7_quarrel_64 ?_
        refine z_vSi C hP (As := [.ref (a (40 + σ 32 8)), .int (iI (t2 10 7))]) lk_X7_236 (c_X7_believedBy hI t2 (40 + σ 32 8) (t2 10 7) (by unfold zRid; omega) (by rw [ft2 (40 + σ 32 8) (by omega)]; exact hrb.2.2.2) (by omega) (by omega) (by omega)) ob_0 rfl rfl rfl hl.1 rfl (Nat.le_of_ble_eq_true rfl) ⟨Nat.le_of_ble_eq_true rfl, Nat.le_of_ble_eq_true rfl⟩ ⟨Nat.zero_le _, Nat.zero_le _⟩ dX7_quarrel_67 ?_
        rw [ft2 (40 + σ 32 8) (by omega)]
        refine z_topi (fun x4 hx4 => ?_)
        refine z_istore_n C [1, 2, 3, 0] [(0, .ref (a 0)), (1, .int (iI n0)), (2, .int (iI x3)), (3, .int (iI x4))] hl (by decide) rfl dX7_quarrel_70 (fun ls hl => ?_)
        have hb1 : 0 ≤ x3 ∧ x3 ≤ 100 := by rw [← hx3]; exact mBel_b (by omega) (by omega) (by omega)
        have hb2 : 0 ≤ x4 ∧ x4 ≤ 100 := by rw [← hx4]; exact mBel_b (by omega) (by omega) (by omega)
        refine z_iconst C dX7_quarrel_71 ?_
        refine z_iload_n C hl 2 rfl dX7_quarrel_72 ?_
        refine z_iload_n C hl 3 rfl dX7_quarrel_73 ?_
        refine z_iadd C dX7_quarrel_74 ?_
        refine z_bipush C (by decide +kernel) dX7_quarrel_75 ?_
        refine z_isub C dX7_quarrel_77 ?_
        refine z_max C ⟨by omega, by omega⟩ ⟨by omega, by omega⟩ wd_511 hl.1 ⟨(Nat.le_of_ble_eq_true rfl), (Nat.le_of_ble_eq_true rfl)⟩ ⟨Nat.zero_le _, Nat.zero_le _⟩ dX7_quarrel_78 ?_
        refine z_topi (fun x5 hx5 => ?_)
        refine z_istore C [1, 2, 3, 4, 0] [(0, .ref (a 0)), (1, .int (iI n0)), (2, .int (iI x3)), (3, .int (iI x4)), (4, .int (iI x5))] hl (by decide) rfl dX7_quarrel_81 (fun ls hl => ?_)
        refine z_iconst C dX7_quarrel_83 ?_
        refine z_istore C [1, 2, 3, 4, 5, 0] [(0, .ref (a 0)), (1, .int (iI n0)), (2, .int (iI x3)), (3, .int (iI x4)), (4, .int (iI x5)), (5, .int (iI 0))] hl (by decide) rfl dX7_quarrel_84 (fun ls hl => ?_)
        have hab : x5 = (max 0 (mBel (mSum (kTF (kRho σ)) (σ 32 12).toNat + mSum (kTB (kRho σ)) (σ 32 12).toNat) (mSum (kTF (kRho σ)) (σ 32 12).toNat) (σ (40 + σ 32 7) 4) + mBel (mSum (kTF (kRho σ)) (σ 32 12).toNat + mSum (kTB (kRho σ)) (σ 32 12).toNat) (mSum (kTB (kRho σ)) (σ 32 12).toNat) (σ (40 + σ 32 8) 4) - 100)) := by rw [← hx5, ← hx3, ← hx4, hA6, hA7]
        skip
        refine z_iconst C dX7_quarrel_86 ?_
        refine z_istore C [1, 2, 3, 4, 5, 6, 0] [(0, .ref (a 0)), (1, .int (iI n0)), (2, .int (iI x3)), (3, .int (iI x4)), (4, .int (iI x5)), (5, .int (iI 0)), (6, .int (iI 0))] hl (by decide) rfl dX7_quarrel_87 (fun ls hl => ?_)
        have L_89 : ∀ (n : Nat) (q : Int) (i : Int) (τ : zS) (H : Heap) (locs : List Loc) (hP : GP D Y a τ H) (hS : va_S (inA a) s.heap H locs) (ls : Array Slot), (0 ≤ i ∧ i ≤ n0) → (q = mQr (max 0 (mBel (mSum (kTF (kRho σ)) (σ 32 12).toNat + mSum (kTB (kRho σ)) (σ 32 12).toNat) (mSum (kTF (kRho σ)) (σ 32 12).toNat) (σ (40 + σ 32 7) 4) + mBel (mSum (kTF (kRho σ)) (σ 32 12).toNat + mSum (kTB (kRho σ)) (σ 32 12).toNat) (mSum (kTB (kRho σ)) (σ 32 12).toNat) (σ (40 + σ 32 8) 4) - 100)) (σ 32 11) i.toNat) → (0 ≤ q ∧ q ≤ 999) → (∀ k : Int, k < 6 ∨ 14 < k → τ k = σ k) → ((n0 - i).toNat) < n → lv_has ls 7 [(0, .ref (a 0)), (1, .int (iI n0)), (2, .int (iI x3)), (3, .int (iI x4)), (4, .int (iI x5)), (5, .int (iI q)), (6, .int (iI i))] → W p l e (zR 5) s m ([.ref (a 0), .int (iI n0)] : List Value).toArray below meth c H locs 0 0 (MQ below (zQi D Y a (fun r τ => (¬ (σ (40 + σ 32 7) 0 = 1 ∧ σ (40 + σ 32 8) 0 = 1) → r = -3) ∧ (σ (40 + σ 32 7) 0 = 1 ∧ σ (40 + σ 32 8) 0 = 1 → ¬ (0 ≤ n0 ∧ n0 ≤ 99) → r = -2) ∧ (σ (40 + σ 32 7) 0 = 1 ∧ σ (40 + σ 32 8) 0 = 1 → 0 ≤ n0 ∧ n0 ≤ 99 → ¬ (kPl σ ∧ kAll σ) → r = -5) ∧ (σ (40 + σ 32 7) 0 = 1 ∧ σ (40 + σ 32 8) 0 = 1 → 0 ≤ n0 ∧ n0 ≤ 99 → kPl σ → kAll σ → r = mQr (max 0 (mBel (mSum (kTF (kRho σ)) (σ 32 12).toNat + mSum (kTB (kRho σ)) (σ 32 12).toNat) (mSum (kTF (kRho σ)) (σ 32 12).toNat) (σ (40 + σ 32 7) 4) + mBel (mSum (kTF (kRho σ)) (σ 32 12).toNat + mSum (kTB (kRho σ)) (σ 32 12).toNat) (mSum (kTB (kRho σ)) (σ 32 12).toNat) (σ (40 + σ 32 8) 4) - 100)) (σ 32 11) n0.toNat) ∧ (∀ k : Int, k < 6 ∨ 14 < k → τ k = σ k))) ([.ref (a 0), .int (iI n0)] : List Value).toArray s 0 0 (inA a)) (F0 m 89 ls []) := by
          intro n
          induction n with
          | zero =>
            intros; omega
          | succ n ih_89 =>
            intro q i τ H locs hP hS ls ii iq ib fτ hm hl
            refine z_iload C hl 6 rfl dX7_quarrel_89 ?_
            refine z_iload_n C hl 1 rfl dX7_quarrel_91 ?_
            refine z_icmp_ge C 126 dX7_quarrel_92 (by decide) ⟨by omega, by omega⟩ ⟨by omega, by omega⟩ (fun c_92 => ?_) (fun c_92 => ?_)
            · refine z_iload C hl 5 rfl dX7_quarrel_126 ?_
              exact z_retQi C hP hS hr hlocks rfl (by exact ⟨fun h => absurd b_1 h, fun _ h => (by exfalso; omega), fun _ _ h => absurd ⟨hPA.1, hPA.2.1⟩ h, fun _ _ _ _ => (by rw [iq, show i = n0 from (by omega)]), fτ⟩) dX7_quarrel_128
            · refine z_sipush C (by decide +kernel) dX7_quarrel_95 ?_
              refine z_iconst C dX7_quarrel_98 ?_
              refine z_iload C hl 5 rfl dX7_quarrel_99 ?_
              refine z_iload C hl 4 rfl dX7_quarrel_101 ?_
              refine z_iadd C dX7_quarrel_103 ?_
              refine z_aload_n C hl 0 rfl dX7_quarrel_104 ?_
              refine zg_X7_12 C hP dX7_quarrel_105 ?_
              refine zg32_X7_91 C hP dX7_quarrel_108 ?_
              rw [show τ 32 11 = σ 32 11 from by rw [fτ 32 (by omega)]]
              refine z_isub C dX7_quarrel_111 ?_
              refine z_max C ⟨by omega, by omega⟩ ⟨by omega, by omega⟩ wd_511 hl.1 ⟨(Nat.le_of_ble_eq_true rfl), (Nat.le_of_ble_eq_true rfl)⟩ ⟨Nat.zero_le _, Nat.zero_le _⟩ dX7_quarrel_112 ?_
              refine z_min C ⟨by omega, by omega⟩ ⟨by omega, by omega⟩ wd_656 hl.1 ⟨(Nat.le_of_ble_eq_true rfl), (Nat.le_of_ble_eq_true rfl)⟩ ⟨Nat.zero_le _, Nat.zero_le _⟩ dX7_quarrel_115 ?_
              refine z_topi (fun x6 hx6 => ?_)
              refine z_istore C [1, 2, 3, 4, 5, 0, 6] [(0, .ref (a 0)), (1, .int (iI n0)), (2, .int (iI x3)), (3, .int (iI x4)), (4, .int (iI x5)), (5, .int (iI x6)), (6, .int (iI i))] hl (by decide) rfl dX7_quarrel_118 (fun ls hl => ?_)
              refine z_iinc C 6 [1, 2, 3, 4, 5, 6, 0] [(0, .ref (a 0)), (1, .int (iI n0)), (2, .int (iI x3)), (3, .int (iI x4)), (4, .int (iI x5)), (5, .int (iI x6)), (6, .int (iI (i + 1)))] hl rfl (by decide) rfl dX7_quarrel_120 (fun ls hl => ?_)
              refine z_goto C 89 dX7_quarrel_123 (by decide) ?_
              exact ih_89 x6 (i + 1) τ H locs hP hS ls (by omega) (by rw [mQr_s _ _ (by omega), ← iq, ← hab]; omega) (by omega) (by exact fτ) (by omega) (lv_sub hl [0, 1, 2, 3, 4, 5, 6] rfl)
        exact L_89 _ 0 0 t2 _ _ hP hS ls (by omega) (by rfl) (by omega) (by exact ft2) (Nat.lt_succ_self _) (lv_sub hl [0, 1, 2, 3, 4, 5, 6] rfl)
      · refine z_bipush C (by decide +kernel) dX7_quarrel_30 ?_
        exact z_retQi C hP hS hr hlocks rfl (by exact ⟨fun h => absurd b_1 h, fun _ h => (by exfalso; omega), fun _ _ _ => rfl, fun _ _ h1 h2 => absurd (And.intro h1 h2) (by rcases hp24.1 with h | h; exact absurd h.1 (by omega); exact h.2), ft2⟩) dX7_quarrel_32
    · rw [show (if 0 ≤ n0 ∧ n0 ≤ 99 then (1 : Int) else 0) = 0 from if_neg b_14]
      refine z_ifF_ne C 23 dX7_quarrel_17 (by decide) ⟨by decide, by decide⟩ (by decide) ?_
      refine z_bipush C (by decide +kernel) dX7_quarrel_20 ?_
      exact z_retQi C hP hS hr hlocks rfl (by exact ⟨fun h => absurd b_1 h, fun _ _ => rfl, fun _ h => (by exfalso; omega), fun _ h => (by exfalso; omega), fun _ _ => rfl⟩) dX7_quarrel_22
  · rw [show (if σ (40 + σ 32 7) 0 = 1 ∧ σ (40 + σ 32 8) 0 = 1 then (1 : Int) else 0) = 0 from if_neg b_1]
    refine z_ifF_ne C 10 dX7_quarrel_4 (by decide) ⟨by decide, by decide⟩ (by decide) ?_
    refine z_bipush C (by decide +kernel) dX7_quarrel_7 ?_
    exact z_retQi C hP hS hr hlocks rfl (by exact ⟨fun _ => rfl, fun h => absurd h b_1, fun h => absurd h b_1, fun h => absurd h b_1, fun _ _ => rfl⟩) dX7_quarrel_9

theorem mCnt_b (P : Int → Prop) [DecidablePred P] (n : Nat) : 0 ≤ mSum (fun i => if P i then 1 else 0) n ∧ mSum (fun i => if P i then 1 else 0) n ≤ n := by
  have h := mSum_b (f := fun i => if P i then (1 : Int) else 0) (A := 1) (n := n) (fun i _ _ => by
    show 0 ≤ (if P i then (1 : Int) else 0) ∧ (if P i then (1 : Int) else 0) ≤ 1
    split <;> omega)
  omega

set_option maxRecDepth 20000 in
set_option maxHeartbeats 4000000 in
theorem c_X7_mean {l : Launch} {D : va_G} {Y : Nat → ClassId} {a : Int → Nat} (hI : zI a) (σ : zS) (t0 pt : Int) (r1 : R3 t0) (r2 : R3 pt) (hth : ∀ r : Int, 0 ≤ r → r ≤ 3 → σ (40 + r) 0 = 0 ∨ σ (40 + r) 0 = 1) (hn : 1 ≤ σ 32 12 ∧ σ 32 12 ≤ 24) (hg : ∀ i : Int, 0 ≤ i → i < 24 → -1 ≤ σ 35 i ∧ σ 35 i ≤ 6) (hse : (0 ≤ σ 32 7 ∧ σ 32 7 ≤ 3) ∧ (0 ≤ σ 32 8 ∧ σ 32 8 ≤ 3)) (hrd : ∀ r : Int, 0 ≤ r → r ≤ 3 → (0 ≤ σ (40 + r) 1 ∧ σ (40 + r) 1 ≤ 20) ∧ (0 ≤ σ (40 + r) 2 ∧ σ (40 + r) 2 ≤ 10) ∧ (0 ≤ σ (40 + r) 3 ∧ σ (40 + r) 3 ≤ 9) ∧ (0 ≤ σ (40 + r) 4 ∧ σ (40 + r) 4 ≤ 50)) (hho : 5 ≤ σ 32 9 ∧ σ 32 9 ≤ 20) (hpz : 0 ≤ σ 32 10 ∧ σ 32 10 ≤ 99) (hp : 0 ≤ σ 3 1 ∧ σ 3 1 ≤ 110) (hq : ∀ i : Int, 0 ≤ i → i < 110 → 0 ≤ σ 4 i ∧ σ 4 i ≤ 126) : zMet l yX7_mean cX7_mean 4 (some .long) 5 (zPc D Y a σ [.ref (a 0), .int (iI t0), .int (iI pt)]) (zQl D Y a (fun r τ => (¬ (σ (40 + σ 32 7) 0 = 1 ∧ σ (40 + σ 32 8) 0 = 1) → r = (-1000000000000000003)) ∧ (σ (40 + σ 32 7) 0 = 1 ∧ σ (40 + σ 32 8) 0 = 1 → ¬ (0 ≤ t0 ∧ t0 ≤ 10 ∧ 0 ≤ pt ∧ pt ≤ 1) → r = (-1000000000000000002)) ∧ (σ (40 + σ 32 7) 0 = 1 ∧ σ (40 + σ 32 8) 0 = 1 → 0 ≤ t0 ∧ t0 ≤ 10 ∧ 0 ≤ pt ∧ pt ≤ 1 → ¬ (kPl σ ∧ kAll σ) → r = (-1000000000000000005)) ∧ (σ (40 + σ 32 7) 0 = 1 ∧ σ (40 + σ 32 8) 0 = 1 → 0 ≤ t0 ∧ t0 ≤ 10 ∧ 0 ≤ pt ∧ pt ≤ 1 → kPl σ → kAll σ → r = mFrac (10 * kS (kRho σ) (-1) (σ 32 12).toNat + 5 * t0 * mSum (fun i => if σ 35 i = 5 then 1 else 0) (σ 32 12).toNat) 10 pt) ∧ (∀ k : Int, k < 6 ∨ 14 < k → τ k = σ k))) (inA a) := by
  refine z_start rfl (Nat.le_of_ble_eq_true rfl) hI ?_
  intro p e s m below meth c ls C hr hlocks hl hP
  have hS : va_S (inA a) s.heap s.heap [] := va_S.rf
  have hl : lv_has ls 4 [(0, .ref (a 0)), (1, .int (iI t0)), (2, .int (iI pt))] := hl
  skip
  refine z_aload_n C hl 0 rfl dX7_mean_0 ?_
  refine z_vSi C hP (As := []) lk_X7_122 (c_X7_areSeated hI σ  hth hse) ob_0 rfl rfl rfl hl.1 rfl (Nat.le_of_ble_eq_true rfl) ⟨Nat.le_of_ble_eq_true rfl, Nat.le_of_ble_eq_true rfl⟩ ⟨Nat.zero_le _, Nat.zero_le _⟩ dX7_mean_1 ?_
  by_cases b_1 : σ (40 + σ 32 7) 0 = 1 ∧ σ (40 + σ 32 8) 0 = 1
  · rw [show (if σ (40 + σ 32 7) 0 = 1 ∧ σ (40 + σ 32 8) 0 = 1 then (1 : Int) else 0) = 1 from if_pos b_1]
    refine z_ifT_ne C 11 dX7_mean_4 (by decide) ⟨by decide, by decide⟩ (by decide) ?_
    refine z_iload_n C hl 1 rfl dX7_mean_11 ?_
    refine z_iconst C dX7_mean_12 ?_
    refine z_bipush C (by decide +kernel) dX7_mean_13 ?_
    refine z_sSi C hP (As := [.int (iI t0), .int (iI 0), .int (iI 10)]) lk_X7_52 (c_X7_isWithin hI σ t0 0 10 r1 ⟨by decide, by decide⟩ ⟨by decide, by decide⟩) rfl hl.1 rfl (Nat.le_of_ble_eq_true rfl) ⟨Nat.le_of_ble_eq_true rfl, Nat.le_of_ble_eq_true rfl⟩ ⟨Nat.zero_le _, Nat.zero_le _⟩ dX7_mean_15 ?_
    by_cases b_15 : 0 ≤ t0 ∧ t0 ≤ 10
    · rw [show (if 0 ≤ t0 ∧ t0 ≤ 10 then (1 : Int) else 0) = 1 from if_pos b_15]
      refine z_ifF_eq C 30 dX7_mean_18 (by decide) ⟨by decide, by decide⟩ (by decide) ?_
      refine z_iload_n C hl 2 rfl dX7_mean_21 ?_
      refine z_iconst C dX7_mean_22 ?_
      refine z_iconst C dX7_mean_23 ?_
      refine z_sSi C hP (As := [.int (iI pt), .int (iI 0), .int (iI 1)]) lk_X7_52 (c_X7_isWithin hI σ pt 0 1 r2 ⟨by decide, by decide⟩ ⟨by decide, by decide⟩) rfl hl.1 rfl (Nat.le_of_ble_eq_true rfl) ⟨Nat.le_of_ble_eq_true rfl, Nat.le_of_ble_eq_true rfl⟩ ⟨Nat.zero_le _, Nat.zero_le _⟩ dX7_mean_24 ?_
      by_cases b_24 : 0 ≤ pt ∧ pt ≤ 1
      · rw [show (if 0 ≤ pt ∧ pt ≤ 1 then (1 : Int) else 0) = 1 from if_pos b_24]
        refine z_ifT_ne C 34 dX7_mean_27 (by decide) ⟨by decide, by decide⟩ (by decide) ?_
        refine z_aload_n C hl 0 rfl dX7_mean_34 ?_
        refine z_vQi hS C hP (As := []) lk_X7_136 (c_X7_planIsRidden hI σ  hth hn hg hse hrd hho hpz hp hq) ob_0 rfl rfl rfl hl.1 rfl (Nat.le_of_ble_eq_true rfl) ⟨Nat.le_of_ble_eq_true rfl, Nat.le_of_ble_eq_true rfl⟩ ⟨Nat.zero_le _, Nat.zero_le _⟩ dX7_mean_35 (fun r1 t2 H locs hp35 hP hS => ?_)
        have ft2 : ∀ k : Int, k < 6 ∨ 14 < k → t2 k = σ k := hp35.2
        have hr01 : r1 = 0 ∨ r1 = 1 := by rcases hp35.1 with h | h; exact Or.inr h.1; exact Or.inl h.1
        refine z_if_ne C 45 dX7_mean_38 (by decide) ⟨by omega, by omega⟩ (fun c_38 => ?_) (fun c_38 => ?_)
        · have hPA : kPl σ ∧ kAll σ ∧ kA (kRho σ) t2 (σ 32 12).toNat ∧ kD (kRho σ) t2 (-1) (σ 32 12) := by rcases hp35.1 with h | h; exact h.2; exact absurd h.1 c_38
          have hkb := kSum_b hn hse hrd hpz hPA.1
          refine z_bipush C (by decide +kernel) dX7_mean_45 ?_
          refine z_aload_n C hl 0 rfl dX7_mean_47 ?_
          refine zg_X7_41 C hP dX7_mean_48 ?_
          refine zg_X7_139 C hP dX7_mean_51 ?_
          refine z_aload_n C hl 0 rfl dX7_mean_54 ?_
          refine zg_X7_12 C hP dX7_mean_55 ?_
          refine zg32_X7_104 C hP dX7_mean_58 ?_
          rw [show t2 32 12 = σ 32 12 from by rw [ft2 32 (by omega)]]
          refine z_iconst C dX7_mean_61 ?_
          refine z_isub C dX7_mean_62 ?_
          have hdl := (hPA.2.2.2 (σ 32 12 - 1) (by omega) (by omega)).1
          rw [show σ 32 12 - 1 + 1 = σ 32 12 from (by omega)] at hdl
          refine z_iald C hP ia_11 ⟨by omega, by omega⟩ dX7_mean_63 ?_
          refine z_imul C dX7_mean_64 ?_
          refine z_iconst C dX7_mean_65 ?_
          refine z_iload_n C hl 1 rfl dX7_mean_66 ?_
          refine z_imul C dX7_mean_67 ?_
          refine z_aload_n C hl 0 rfl dX7_mean_68 ?_
          refine zg_X7_12 C hP dX7_mean_69 ?_
          refine z_vSi C hP (As := []) lk_X7_222 (c_X6_corners hI t2  (by rw [ft2 32 (by omega)]; exact hn) (by rw [ft2 35 (by omega)]; exact hg)) (ob_set (by unfold zSet; omega)) rfl rfl rfl hl.1 rfl (Nat.le_of_ble_eq_true rfl) ⟨Nat.le_of_ble_eq_true rfl, Nat.le_of_ble_eq_true rfl⟩ ⟨Nat.zero_le _, Nat.zero_le _⟩ dX7_mean_72 ?_
          rw [ft2 32 (by omega), ft2 35 (by omega)]
          have hcn := mCnt_b (fun i => σ 35 i = 5) (σ 32 12).toNat
          have hpr := mulb (x := 5 * t0) (y := mSum (fun i => if σ 35 i = 5 then 1 else 0) (σ 32 12).toNat) (A := 50) (B := 24) (by omega) (by omega)
          refine z_imul C dX7_mean_75 ?_
          refine z_iadd C dX7_mean_76 ?_
          refine z_topi (fun x3 hx3 => ?_)
          refine z_istore_n C [1, 2, 3, 0] [(0, .ref (a 0)), (1, .int (iI t0)), (2, .int (iI pt)), (3, .int (iI x3))] hl (by decide) rfl dX7_mean_77 (fun ls hl => ?_)
          refine z_iload_n C hl 3 rfl dX7_mean_78 ?_
          refine z_i2l C ⟨by omega, by omega⟩ dX7_mean_79 ?_
          refine z_ldc2 C (z := 10) wd_768 (by decide +kernel) dX7_mean_80 ?_
          refine z_iload_n C hl 2 rfl dX7_mean_83 ?_
          refine z_sSl C hP (As := [.long (jI x3), .long (jI 10), .int (iI pt)]) lk_X7_164 (c_X7_fractionPart hI t2 x3 10 pt (by omega) (by omega) (by omega)) rfl hl.1 rfl (Nat.le_of_ble_eq_true rfl) ⟨Nat.le_of_ble_eq_true rfl, Nat.le_of_ble_eq_true rfl⟩ ⟨Nat.zero_le _, Nat.zero_le _⟩ dX7_mean_84 ?_
          exact z_retQl C hP hS hr hlocks (by exact ⟨fun h => absurd b_1 h, fun _ h => (by exfalso; omega), fun _ _ h => absurd ⟨hPA.1, hPA.2.1⟩ h, fun _ _ _ _ => (by rw [← hdl]; subst_vars; rfl), ft2⟩) dX7_mean_87
        · refine z_ldc2 C (z := (-1000000000000000005)) wd_463 (by decide +kernel) dX7_mean_41 ?_
          exact z_retQl C hP hS hr hlocks (by exact ⟨fun h => absurd b_1 h, fun _ h => (by exfalso; omega), fun _ _ _ => rfl, fun _ _ h1 h2 => absurd (And.intro h1 h2) (by rcases hp35.1 with h | h; exact absurd h.1 (by omega); exact h.2), ft2⟩) dX7_mean_44
      · rw [show (if 0 ≤ pt ∧ pt ≤ 1 then (1 : Int) else 0) = 0 from if_neg b_24]
        refine z_ifF_ne C 34 dX7_mean_27 (by decide) ⟨by decide, by decide⟩ (by decide) ?_
        refine z_ldc2 C (z := (-1000000000000000002)) wd_462 (by decide +kernel) dX7_mean_30 ?_
        exact z_retQl C hP hS hr hlocks (by exact ⟨fun h => absurd b_1 h, fun _ _ => rfl, fun _ h => (by exfalso; omega), fun _ h => (by exfalso; omega), fun _ _ => rfl⟩) dX7_mean_33
    · rw [show (if 0 ≤ t0 ∧ t0 ≤ 10 then (1 : Int) else 0) = 0 from if_neg b_15]
      refine z_ifT_eq C 30 dX7_mean_18 (by decide) ⟨by decide, by decide⟩ (by decide) ?_
      refine z_ldc2 C (z := (-1000000000000000002)) wd_462 (by decide +kernel) dX7_mean_30 ?_
      exact z_retQl C hP hS hr hlocks (by exact ⟨fun h => absurd b_1 h, fun _ _ => rfl, fun _ h => (by exfalso; omega), fun _ h => (by exfalso; omega), fun _ _ => rfl⟩) dX7_mean_33
  · rw [show (if σ (40 + σ 32 7) 0 = 1 ∧ σ (40 + σ 32 8) 0 = 1 then (1 : Int) else 0) = 0 from if_neg b_1]
    refine z_ifF_ne C 11 dX7_mean_4 (by decide) ⟨by decide, by decide⟩ (by decide) ?_
    refine z_ldc2 C (z := (-1000000000000000003)) wd_461 (by decide +kernel) dX7_mean_7 ?_
    exact z_retQl C hP hS hr hlocks (by exact ⟨fun _ => rfl, fun h => absurd h b_1, fun h => absurd h b_1, fun h => absurd h b_1, fun _ _ => rfl⟩) dX7_mean_10
