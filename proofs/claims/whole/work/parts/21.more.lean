theorem mUnev_b {σ : zS} (hse : (0 ≤ σ 32 7 ∧ σ 32 7 ≤ 3) ∧ (0 ≤ σ 32 8 ∧ σ 32 8 ≤ 3)) (hrd : ∀ r : Int, 0 ≤ r → r ≤ 3 → (0 ≤ σ (40 + r) 1 ∧ σ (40 + r) 1 ≤ 20) ∧ (0 ≤ σ (40 + r) 2 ∧ σ (40 + r) 2 ≤ 10) ∧ (0 ≤ σ (40 + r) 3 ∧ σ (40 + r) 3 ≤ 9) ∧ (0 ≤ σ (40 + r) 4 ∧ σ (40 + r) 4 ≤ 50)) {ef eb p0 : Int} (hef : 0 ≤ ef ∧ ef ≤ 4) (heb : 0 ≤ eb ∧ eb ≤ 4) (hp : 0 ≤ p0 ∧ p0 ≤ 11) : -1000000000 ≤ mUnev σ ef eb p0 ∧ mUnev σ ef eb p0 ≤ 1000 := by
  have hrf := hrd (σ 32 7) (by omega) (by omega)
  have hrb := hrd (σ 32 8) (by omega) (by omega)
  have h1 := mMxS_b (s := 0) (f := mPush (σ (40 + σ 32 7) 1) (σ (40 + σ 32 8) 1) ef eb p0) (A := 960) (by omega) (n := 12) (fun i h1 h2 => by have := mPush_b (k := i) hrf.1 hrb.1 hef heb hp (by omega); omega)
  have h2 := mMnS_b (s := 1000000000) (f := mPush (σ (40 + σ 32 7) 1) (σ (40 + σ 32 8) 1) ef eb p0) (A := 1000000000) (by omega) (n := 12) (fun i h1 h2 => by have := mPush_b (k := i) hrf.1 hrb.1 hef heb hp (by omega); omega)
  unfold mUnev
  omega
noncomputable def mFst (H : Int → Prop) : Nat → Int
  | 0 => -6
  | n + 1 => @ite _ (H (n + 1)) (Classical.propDecidable _) (if mSum (fun i => mB (H (i + 1))) n = 0 then n + 1 else mFst H n) (mFst H n)
noncomputable def mLst (H : Int → Prop) : Nat → Int
  | 0 => -6
  | n + 1 => @ite _ (H (n + 1)) (Classical.propDecidable _) (n + 1) (mLst H n)
theorem mFit_s (H : Int → Prop) {s : Int} (h : 1 ≤ s) : mSum (fun i => mB (H (i + 1))) s.toNat = mSum (fun i => mB (H (i + 1))) (s - 1).toNat + mB (H s) := by
  have e := mSum_s (fun i => mB (H (i + 1))) (i := s - 1) (by omega)
  simpa only [show s - 1 + 1 = s by omega] using e
theorem mFst_t {H : Int → Prop} {s : Int} (h : 1 ≤ s) (hh : H s) : mFst H s.toNat = if mSum (fun i => mB (H (i + 1))) (s - 1).toNat = 0 then s else mFst H (s - 1).toNat := by
  have e : s.toNat = (s - 1).toNat + 1 := by omega
  rw [e]
  show @ite _ (H (((s - 1).toNat : Int) + 1)) (Classical.propDecidable _) (if _ = 0 then ((s - 1).toNat : Int) + 1 else _) _ = _
  rw [show ((s - 1).toNat : Int) + 1 = s by omega, if_pos hh]
theorem mFst_f {H : Int → Prop} {s : Int} (h : 1 ≤ s) (hh : ¬ H s) : mFst H s.toNat = mFst H (s - 1).toNat := by
  have e : s.toNat = (s - 1).toNat + 1 := by omega
  rw [e]
  show @ite _ (H (((s - 1).toNat : Int) + 1)) (Classical.propDecidable _) _ _ = _
  rw [show ((s - 1).toNat : Int) + 1 = s by omega, if_neg hh]
theorem mLst_t {H : Int → Prop} {s : Int} (h : 1 ≤ s) (hh : H s) : mLst H s.toNat = s := by
  have e : s.toNat = (s - 1).toNat + 1 := by omega
  rw [e]
  show @ite _ (H (((s - 1).toNat : Int) + 1)) (Classical.propDecidable _) (((s - 1).toNat : Int) + 1) _ = _
  rw [show ((s - 1).toNat : Int) + 1 = s by omega, if_pos hh]
theorem mLst_f {H : Int → Prop} {s : Int} (h : 1 ≤ s) (hh : ¬ H s) : mLst H s.toNat = mLst H (s - 1).toNat := by
  have e : s.toNat = (s - 1).toNat + 1 := by omega
  rw [e]
  show @ite _ (H (((s - 1).toNat : Int) + 1)) (Classical.propDecidable _) _ _ = _
  rw [show ((s - 1).toNat : Int) + 1 = s by omega, if_neg hh]
theorem mFL_b (H : Int → Prop) : ∀ n : Nat, (mFst H n = -6 ∨ (1 ≤ mFst H n ∧ mFst H n ≤ n)) ∧ (mLst H n = -6 ∨ (1 ≤ mLst H n ∧ mLst H n ≤ n)) ∧ (0 ≤ mSum (fun i => mB (H (i + 1))) n ∧ mSum (fun i => mB (H (i + 1))) n ≤ n)
  | 0 => ⟨Or.inl rfl, Or.inl rfl, Int.le_refl _, Int.le_refl _⟩
  | n + 1 => by
    have ih := mFL_b H n
    have hb := mB_b (H ((n : Int) + 1))
    have e1 : mFst H (n + 1) = @ite _ (H (n + 1)) (Classical.propDecidable _) (if mSum (fun i => mB (H (i + 1))) n = 0 then (n : Int) + 1 else mFst H n) (mFst H n) := rfl
    have e2 : mLst H (n + 1) = @ite _ (H (n + 1)) (Classical.propDecidable _) ((n : Int) + 1) (mLst H n) := rfl
    have e3 : mSum (fun i => mB (H (i + 1))) (n + 1) = mSum (fun i => mB (H (i + 1))) n + mB (H ((n : Int) + 1)) := rfl
    rw [e1, e2, e3]
    by_cases hh : H ((n : Int) + 1)
    · rw [if_pos hh, if_pos hh]
      split <;> omega
    · rw [if_neg hh, if_neg hh]
      omega
def mHold (σ : zS) (rr str : Int) : Prop := ∀ i : Int, 0 ≤ i → i < σ 32 13 → σ 36 i ≠ rr ∨ mSec (mHard (σ 37 i) / 2) (σ 38 i * str) = σ 39 i

set_option maxRecDepth 20000 in
set_option maxHeartbeats 4000000 in
theorem c_X7_unevenness {l : Launch} {D : va_G} {Y : Nat → ClassId} {a : Int → Nat} (hI : zI a) (σ : zS) (ef eb p0 : Int) (hse : (0 ≤ σ 32 7 ∧ σ 32 7 ≤ 3) ∧ (0 ≤ σ 32 8 ∧ σ 32 8 ≤ 3)) (hrd : ∀ r : Int, 0 ≤ r → r ≤ 3 → (0 ≤ σ (40 + r) 1 ∧ σ (40 + r) 1 ≤ 20) ∧ (0 ≤ σ (40 + r) 2 ∧ σ (40 + r) 2 ≤ 10) ∧ (0 ≤ σ (40 + r) 3 ∧ σ (40 + r) 3 ≤ 9) ∧ (0 ≤ σ (40 + r) 4 ∧ σ (40 + r) 4 ≤ 50)) (hef : 0 ≤ ef ∧ ef ≤ 4) (heb : 0 ≤ eb ∧ eb ≤ 4) (hp : 0 ≤ p0 ∧ p0 ≤ 11) : zMet l yX7_unevenness cX7_unevenness 10 (some .int) 2 (zPc D Y a σ [.ref (a 0), .int (iI ef), .int (iI eb), .int (iI p0)]) (zSi (mUnev σ ef eb p0)) zNo := by
  refine z_start rfl (Nat.le_of_ble_eq_true rfl) hI ?_
  intro p e s m below meth c ls C hr hlocks hl hP
  have hl : lv_has ls 10 [(0, .ref (a 0)), (1, .int (iI ef)), (2, .int (iI eb)), (3, .int (iI p0))] := hl
  have hrf := hrd (σ 32 7) (by omega) (by omega)
  have hrb := hrd (σ 32 8) (by omega) (by omega)
  have hpb := fun (k : Int) (hk : 0 ≤ k ∧ k ≤ 11) => mPush_b (k := k) hrf.1 hrb.1 hef heb hp hk
  refine z_iload_n C hl 1 rfl dX7_unevenness_0 ?_
  refine z_aload_n C hl 0 rfl dX7_unevenness_1 ?_
  refine zg_X7_12 C hP dX7_unevenness_2 ?_
  refine z_vSr C hP (As := []) lk_X7_171 (c_X6_riderInFront hI σ  (by omega)) (ob_set (by unfold zSet; omega)) rfl rfl rfl hl.1 rfl (Nat.le_of_ble_eq_true rfl) ⟨Nat.le_of_ble_eq_true rfl, Nat.le_of_ble_eq_true rfl⟩ ⟨Nat.zero_le _, Nat.zero_le _⟩ dX7_unevenness_5 ?_
  refine zg_X7_280 C hP (by unfold zRid; omega) dX7_unevenness_8 ?_
  refine z_imul C dX7_unevenness_11 ?_
  refine z_topi (fun x1 hx1 => ?_)
  refine z_istore C [1, 2, 3, 4, 0] [(0, .ref (a 0)), (1, .int (iI ef)), (2, .int (iI eb)), (3, .int (iI p0)), (4, .int (iI x1))] hl (by decide) rfl dX7_unevenness_12 (fun ls hl => ?_)
  refine z_iload_n C hl 2 rfl dX7_unevenness_14 ?_
  refine z_aload_n C hl 0 rfl dX7_unevenness_15 ?_
  refine zg_X7_12 C hP dX7_unevenness_16 ?_
  refine z_vSr C hP (As := []) lk_X7_175 (c_X6_riderInBack hI σ  (by omega)) (ob_set (by unfold zSet; omega)) rfl rfl rfl hl.1 rfl (Nat.le_of_ble_eq_true rfl) ⟨Nat.le_of_ble_eq_true rfl, Nat.le_of_ble_eq_true rfl⟩ ⟨Nat.zero_le _, Nat.zero_le _⟩ dX7_unevenness_19 ?_
  refine zg_X7_280 C hP (by unfold zRid; omega) dX7_unevenness_22 ?_
  refine z_imul C dX7_unevenness_25 ?_
  refine z_topi (fun x2 hx2 => ?_)
  refine z_istore C [1, 2, 3, 4, 5, 0] [(0, .ref (a 0)), (1, .int (iI ef)), (2, .int (iI eb)), (3, .int (iI p0)), (4, .int (iI x1)), (5, .int (iI x2))] hl (by decide) rfl dX7_unevenness_26 (fun ls hl => ?_)
  refine z_iconst C dX7_unevenness_28 ?_
  refine z_istore C [1, 2, 3, 4, 5, 6, 0] [(0, .ref (a 0)), (1, .int (iI ef)), (2, .int (iI eb)), (3, .int (iI p0)), (4, .int (iI x1)), (5, .int (iI x2)), (6, .int (iI 0))] hl (by decide) rfl dX7_unevenness_29 (fun ls hl => ?_)
  refine z_ldcw C (z := 1000000000) wd_655 (by decide +kernel) dX7_unevenness_31 ?_
  refine z_istore C [1, 2, 3, 4, 5, 6, 7, 0] [(0, .ref (a 0)), (1, .int (iI ef)), (2, .int (iI eb)), (3, .int (iI p0)), (4, .int (iI x1)), (5, .int (iI x2)), (6, .int (iI 0)), (7, .int (iI 1000000000))] hl (by decide) rfl dX7_unevenness_34 (fun ls hl => ?_)
  refine z_iconst C dX7_unevenness_36 ?_
  refine z_istore C [1, 2, 3, 4, 5, 6, 7, 8, 0] [(0, .ref (a 0)), (1, .int (iI ef)), (2, .int (iI eb)), (3, .int (iI p0)), (4, .int (iI x1)), (5, .int (iI x2)), (6, .int (iI 0)), (7, .int (iI 1000000000)), (8, .int (iI 0))] hl (by decide) rfl dX7_unevenness_37 (fun ls hl => ?_)
  have L_39 : ∀ (n : Nat) (mx : Int) (mn : Int) (k : Int) (ls : Array Slot), (0 ≤ k ∧ k ≤ 12) → (mx = mMxS 0 (mPush (σ (40 + σ 32 7) 1) (σ (40 + σ 32 8) 1) ef eb p0) k.toNat) → (mn = mMnS 1000000000 (mPush (σ (40 + σ 32 7) 1) (σ (40 + σ 32 8) 1) ef eb p0) k.toNat) → (0 ≤ mx ∧ mx ≤ 960) → (0 ≤ mn ∧ mn ≤ 1000000000) → ((12 - k).toNat) < n → lv_has ls 10 [(0, .ref (a 0)), (1, .int (iI ef)), (2, .int (iI eb)), (3, .int (iI p0)), (4, .int (iI x1)), (5, .int (iI x2)), (6, .int (iI mx)), (7, .int (iI mn)), (8, .int (iI k))] → W p l e (zR 2) s m ([.ref (a 0), .int (iI ef), .int (iI eb), .int (iI p0)] : List Value).toArray below meth c s.heap [] 0 0 (MQ below (zSi (mUnev σ ef eb p0)) ([.ref (a 0), .int (iI ef), .int (iI eb), .int (iI p0)] : List Value).toArray s 0 0 zNo) (F0 m 39 ls []) := by
    intro n
    induction n with
    | zero =>
      intros; omega
    | succ n ih_39 =>
      intro mx mn k ls ik iv iw ix iy hm hl
      refine z_iload C hl 8 rfl dX7_unevenness_39 ?_
      refine z_bipush C (by decide +kernel) dX7_unevenness_41 ?_
      refine z_icmp_ge C 94 dX7_unevenness_43 (by decide) ⟨by omega, by omega⟩ ⟨by omega, by omega⟩ (fun c_43 => ?_) (fun c_43 => ?_)
      · refine z_iload C hl 6 rfl dX7_unevenness_94 ?_
        refine z_iload C hl 7 rfl dX7_unevenness_96 ?_
        refine z_isub C dX7_unevenness_98 ?_
        exact z_retSi C hr hlocks rfl (by rw [iv, iw, show k = 12 from (by omega)]; rfl) dX7_unevenness_99
      · have hpk := hpb k (by omega)
        unfold mPush at hpk
        simp only [hx1, hx2] at hpk
        have hcb := mCrank_b (k := k) (by omega)
        have hcc := mCrank_b (k := (k + p0) % 12) (by omega)
        refine z_iload C hl 4 rfl dX7_unevenness_46 ?_
        refine z_iload C hl 8 rfl dX7_unevenness_48 ?_
        refine z_sSi C hP (As := [.int (iI k)]) lk_X7_295 (c_X7_crankAt hI σ k (by omega)) rfl hl.1 rfl (Nat.le_of_ble_eq_true rfl) ⟨Nat.le_of_ble_eq_true rfl, Nat.le_of_ble_eq_true rfl⟩ ⟨Nat.zero_le _, Nat.zero_le _⟩ dX7_unevenness_50 ?_
        refine z_imul C dX7_unevenness_53 ?_
        refine z_iload C hl 5 rfl dX7_unevenness_54 ?_
        refine z_iload C hl 8 rfl dX7_unevenness_56 ?_
        refine z_iload_n C hl 3 rfl dX7_unevenness_58 ?_
        refine z_iadd C dX7_unevenness_59 ?_
        refine z_bipush C (by decide +kernel) dX7_unevenness_60 ?_
        refine z_irem C ⟨by omega, by omega, by omega, by omega⟩ dX7_unevenness_62 ?_
        refine z_sSi C hP (As := [.int (iI ((k + p0) % 12))]) lk_X7_295 (c_X7_crankAt hI σ ((k + p0) % 12) (by omega)) rfl hl.1 rfl (Nat.le_of_ble_eq_true rfl) ⟨Nat.le_of_ble_eq_true rfl, Nat.le_of_ble_eq_true rfl⟩ ⟨Nat.zero_le _, Nat.zero_le _⟩ dX7_unevenness_63 ?_
        refine z_imul C dX7_unevenness_66 ?_
        refine z_iadd C dX7_unevenness_67 ?_
        refine z_topi (fun x3 hx3 => ?_)
        refine z_istore C [1, 2, 3, 4, 5, 6, 7, 8, 9, 0] [(0, .ref (a 0)), (1, .int (iI ef)), (2, .int (iI eb)), (3, .int (iI p0)), (4, .int (iI x1)), (5, .int (iI x2)), (6, .int (iI mx)), (7, .int (iI mn)), (8, .int (iI k)), (9, .int (iI x3))] hl (by decide) rfl dX7_unevenness_68 (fun ls hl => ?_)
        refine z_iload C hl 6 rfl dX7_unevenness_70 ?_
        refine z_iload C hl 9 rfl dX7_unevenness_72 ?_
        refine z_max C ⟨by omega, by omega⟩ ⟨by omega, by omega⟩ wd_511 hl.1 ⟨(Nat.le_of_ble_eq_true rfl), (Nat.le_of_ble_eq_true rfl)⟩ ⟨Nat.zero_le _, Nat.zero_le _⟩ dX7_unevenness_74 ?_
        refine z_topi (fun x4 hx4 => ?_)
        refine z_istore C [1, 2, 3, 4, 5, 6, 0, 7, 8, 9] [(0, .ref (a 0)), (1, .int (iI ef)), (2, .int (iI eb)), (3, .int (iI p0)), (4, .int (iI x1)), (5, .int (iI x2)), (6, .int (iI x4)), (7, .int (iI mn)), (8, .int (iI k)), (9, .int (iI x3))] hl (by decide) rfl dX7_unevenness_77 (fun ls hl => ?_)
        refine z_iload C hl 7 rfl dX7_unevenness_79 ?_
        refine z_iload C hl 9 rfl dX7_unevenness_81 ?_
        refine z_min C ⟨by omega, by omega⟩ ⟨by omega, by omega⟩ wd_656 hl.1 ⟨(Nat.le_of_ble_eq_true rfl), (Nat.le_of_ble_eq_true rfl)⟩ ⟨Nat.zero_le _, Nat.zero_le _⟩ dX7_unevenness_83 ?_
        refine z_topi (fun x5 hx5 => ?_)
        refine z_istore C [1, 2, 3, 4, 5, 6, 7, 0, 8, 9] [(0, .ref (a 0)), (1, .int (iI ef)), (2, .int (iI eb)), (3, .int (iI p0)), (4, .int (iI x1)), (5, .int (iI x2)), (6, .int (iI x4)), (7, .int (iI x5)), (8, .int (iI k)), (9, .int (iI x3))] hl (by decide) rfl dX7_unevenness_86 (fun ls hl => ?_)
        refine z_iinc C 8 [1, 2, 3, 4, 5, 6, 7, 8, 0, 9] [(0, .ref (a 0)), (1, .int (iI ef)), (2, .int (iI eb)), (3, .int (iI p0)), (4, .int (iI x1)), (5, .int (iI x2)), (6, .int (iI x4)), (7, .int (iI x5)), (8, .int (iI (k + 1))), (9, .int (iI x3))] hl rfl (by decide) rfl dX7_unevenness_88 (fun ls hl => ?_)
        refine z_goto C 39 dX7_unevenness_91 (by decide) ?_
        exact ih_39 x4 x5 (k + 1) ls (by omega) (by rw [mMxS_s _ _ (by omega), ← iv]; unfold mPush; subst_vars; rfl) (by rw [mMnS_s _ _ (by omega), ← iw]; unfold mPush; subst_vars; rfl) (by subst_vars; omega) (by subst_vars; omega) (by omega) (lv_sub hl [0, 1, 2, 3, 4, 5, 6, 7, 8] rfl)
  exact L_39 _ 0 1000000000 0 ls (by omega) (by rfl) (by rfl) (by omega) (by omega) (Nat.lt_succ_self _) (lv_sub hl [0, 1, 2, 3, 4, 5, 6, 7, 8] rfl)

set_option maxRecDepth 20000 in
set_option maxHeartbeats 4000000 in
theorem c_X7_uneven {l : Launch} {D : va_G} {Y : Nat → ClassId} {a : Int → Nat} (hI : zI a) (σ : zS) (ef eb p0 : Int) (r1 : R3 ef) (r2 : R3 eb) (r3 : R3 p0) (hth : ∀ r : Int, 0 ≤ r → r ≤ 3 → σ (40 + r) 0 = 0 ∨ σ (40 + r) 0 = 1) (hse : (0 ≤ σ 32 7 ∧ σ 32 7 ≤ 3) ∧ (0 ≤ σ 32 8 ∧ σ 32 8 ≤ 3)) (hrd : ∀ r : Int, 0 ≤ r → r ≤ 3 → (0 ≤ σ (40 + r) 1 ∧ σ (40 + r) 1 ≤ 20) ∧ (0 ≤ σ (40 + r) 2 ∧ σ (40 + r) 2 ≤ 10) ∧ (0 ≤ σ (40 + r) 3 ∧ σ (40 + r) 3 ≤ 9) ∧ (0 ≤ σ (40 + r) 4 ∧ σ (40 + r) 4 ≤ 50)) : zMet l yX7_uneven cX7_uneven 4 (some .int) 3 (zPc D Y a σ [.ref (a 0), .int (iI ef), .int (iI eb), .int (iI p0)]) (zSi (if σ (40 + σ 32 7) 0 = 1 ∧ σ (40 + σ 32 8) 0 = 1 then (if (0 ≤ ef ∧ ef ≤ 4) ∧ (0 ≤ eb ∧ eb ≤ 4) ∧ 0 ≤ p0 ∧ p0 ≤ 11 then mUnev σ ef eb p0 else -2) else -3)) zNo := by
  refine z_start rfl (Nat.le_of_ble_eq_true rfl) hI ?_
  intro p e s m below meth c ls C hr hlocks hl hP
  have hl : lv_has ls 4 [(0, .ref (a 0)), (1, .int (iI ef)), (2, .int (iI eb)), (3, .int (iI p0))] := hl
  refine z_aload_n C hl 0 rfl dX7_uneven_0 ?_
  refine z_vSi C hP (As := []) lk_X7_122 (c_X7_areSeated hI σ  hth hse) ob_0 rfl rfl rfl hl.1 rfl (Nat.le_of_ble_eq_true rfl) ⟨Nat.le_of_ble_eq_true rfl, Nat.le_of_ble_eq_true rfl⟩ ⟨Nat.zero_le _, Nat.zero_le _⟩ dX7_uneven_1 ?_
  by_cases b_1 : σ (40 + σ 32 7) 0 = 1 ∧ σ (40 + σ 32 8) 0 = 1
  · rw [show (if σ (40 + σ 32 7) 0 = 1 ∧ σ (40 + σ 32 8) 0 = 1 then (1 : Int) else 0) = 1 from if_pos b_1]
    refine z_ifT_ne C 10 dX7_uneven_4 (by decide) ⟨by decide, by decide⟩ (by decide) ?_
    refine z_iload_n C hl 1 rfl dX7_uneven_10 ?_
    refine z_sSi C hP (As := [.int (iI ef)]) lk_X7_115 (c_X7_isEffort hI σ ef r1) rfl hl.1 rfl (Nat.le_of_ble_eq_true rfl) ⟨Nat.le_of_ble_eq_true rfl, Nat.le_of_ble_eq_true rfl⟩ ⟨Nat.zero_le _, Nat.zero_le _⟩ dX7_uneven_11 ?_
    by_cases b_11 : 0 ≤ ef ∧ ef ≤ 4
    · rw [show (if 0 ≤ ef ∧ ef ≤ 4 then (1 : Int) else 0) = 1 from if_pos b_11]
      refine z_ifF_eq C 34 dX7_uneven_14 (by decide) ⟨by decide, by decide⟩ (by decide) ?_
      refine z_iload_n C hl 2 rfl dX7_uneven_17 ?_
      refine z_sSi C hP (As := [.int (iI eb)]) lk_X7_115 (c_X7_isEffort hI σ eb r2) rfl hl.1 rfl (Nat.le_of_ble_eq_true rfl) ⟨Nat.le_of_ble_eq_true rfl, Nat.le_of_ble_eq_true rfl⟩ ⟨Nat.zero_le _, Nat.zero_le _⟩ dX7_uneven_18 ?_
      by_cases b_18 : 0 ≤ eb ∧ eb ≤ 4
      · rw [show (if 0 ≤ eb ∧ eb ≤ 4 then (1 : Int) else 0) = 1 from if_pos b_18]
        refine z_ifF_eq C 34 dX7_uneven_21 (by decide) ⟨by decide, by decide⟩ (by decide) ?_
        refine z_iload_n C hl 3 rfl dX7_uneven_24 ?_
        refine z_iconst C dX7_uneven_25 ?_
        refine z_bipush C (by decide +kernel) dX7_uneven_26 ?_
        refine z_sSi C hP (As := [.int (iI p0), .int (iI 0), .int (iI 11)]) lk_X7_52 (c_X7_isWithin hI σ p0 0 11 r3 ⟨by decide, by decide⟩ ⟨by decide, by decide⟩) rfl hl.1 rfl (Nat.le_of_ble_eq_true rfl) ⟨Nat.le_of_ble_eq_true rfl, Nat.le_of_ble_eq_true rfl⟩ ⟨Nat.zero_le _, Nat.zero_le _⟩ dX7_uneven_28 ?_
        by_cases b_28 : 0 ≤ p0 ∧ p0 ≤ 11
        · rw [show (if 0 ≤ p0 ∧ p0 ≤ 11 then (1 : Int) else 0) = 1 from if_pos b_28]
          refine z_ifT_ne C 37 dX7_uneven_31 (by decide) ⟨by decide, by decide⟩ (by decide) ?_
          refine z_aload_n C hl 0 rfl dX7_uneven_37 ?_
          refine z_iload_n C hl 1 rfl dX7_uneven_38 ?_
          refine z_iload_n C hl 2 rfl dX7_uneven_39 ?_
          refine z_iload_n C hl 3 rfl dX7_uneven_40 ?_
          refine z_vSi C hP (As := [.int (iI ef), .int (iI eb), .int (iI p0)]) lk_X7_219 (c_X7_unevenness hI σ ef eb p0 hse hrd (by omega) (by omega) (by omega)) ob_0 rfl rfl rfl hl.1 rfl (Nat.le_of_ble_eq_true rfl) ⟨Nat.le_of_ble_eq_true rfl, Nat.le_of_ble_eq_true rfl⟩ ⟨Nat.zero_le _, Nat.zero_le _⟩ dX7_uneven_41 ?_
          exact z_retSi C hr hlocks rfl (by first | (rw [if_neg b_1]; done) | (rw [if_pos b_1, if_neg (by omega)]; done) | (rw [if_pos b_1, if_pos (by omega)]; done)) dX7_uneven_44
        · rw [show (if 0 ≤ p0 ∧ p0 ≤ 11 then (1 : Int) else 0) = 0 from if_neg b_28]
          refine z_ifF_ne C 37 dX7_uneven_31 (by decide) ⟨by decide, by decide⟩ (by decide) ?_
          refine z_bipush C (by decide +kernel) dX7_uneven_34 ?_
          exact z_retSi C hr hlocks rfl (by first | (rw [if_neg b_1]; done) | (rw [if_pos b_1, if_neg (by omega)]; done) | (rw [if_pos b_1, if_pos (by omega)]; done)) dX7_uneven_36
      · rw [show (if 0 ≤ eb ∧ eb ≤ 4 then (1 : Int) else 0) = 0 from if_neg b_18]
        refine z_ifT_eq C 34 dX7_uneven_21 (by decide) ⟨by decide, by decide⟩ (by decide) ?_
        refine z_bipush C (by decide +kernel) dX7_uneven_34 ?_
        exact z_retSi C hr hlocks rfl (by first | (rw [if_neg b_1]; done) | (rw [if_pos b_1, if_neg (by omega)]; done) | (rw [if_pos b_1, if_pos (by omega)]; done)) dX7_uneven_36
    · rw [show (if 0 ≤ ef ∧ ef ≤ 4 then (1 : Int) else 0) = 0 from if_neg b_11]
      refine z_ifT_eq C 34 dX7_uneven_14 (by decide) ⟨by decide, by decide⟩ (by decide) ?_
      refine z_bipush C (by decide +kernel) dX7_uneven_34 ?_
      exact z_retSi C hr hlocks rfl (by first | (rw [if_neg b_1]; done) | (rw [if_pos b_1, if_neg (by omega)]; done) | (rw [if_pos b_1, if_pos (by omega)]; done)) dX7_uneven_36
  · rw [show (if σ (40 + σ 32 7) 0 = 1 ∧ σ (40 + σ 32 8) 0 = 1 then (1 : Int) else 0) = 0 from if_neg b_1]
    refine z_ifF_ne C 10 dX7_uneven_4 (by decide) ⟨by decide, by decide⟩ (by decide) ?_
    refine z_bipush C (by decide +kernel) dX7_uneven_7 ?_
    exact z_retSi C hr hlocks rfl (by first | (rw [if_neg b_1]; done) | (rw [if_pos b_1, if_neg (by omega)]; done) | (rw [if_pos b_1, if_pos (by omega)]; done)) dX7_uneven_9

set_option maxRecDepth 20000 in
set_option maxHeartbeats 4000000 in
theorem c_X7_evenest {l : Launch} {D : va_G} {Y : Nat → ClassId} {a : Int → Nat} (hI : zI a) (σ : zS) (ef eb : Int) (r1 : R3 ef) (r2 : R3 eb) (hth : ∀ r : Int, 0 ≤ r → r ≤ 3 → σ (40 + r) 0 = 0 ∨ σ (40 + r) 0 = 1) (hse : (0 ≤ σ 32 7 ∧ σ 32 7 ≤ 3) ∧ (0 ≤ σ 32 8 ∧ σ 32 8 ≤ 3)) (hrd : ∀ r : Int, 0 ≤ r → r ≤ 3 → (0 ≤ σ (40 + r) 1 ∧ σ (40 + r) 1 ≤ 20) ∧ (0 ≤ σ (40 + r) 2 ∧ σ (40 + r) 2 ≤ 10) ∧ (0 ≤ σ (40 + r) 3 ∧ σ (40 + r) 3 ≤ 9) ∧ (0 ≤ σ (40 + r) 4 ∧ σ (40 + r) 4 ≤ 50)) : zMet l yX7_evenest cX7_evenest 7 (some .int) 3 (zPc D Y a σ [.ref (a 0), .int (iI ef), .int (iI eb)]) (zSi (if σ (40 + σ 32 7) 0 = 1 ∧ σ (40 + σ 32 8) 0 = 1 then (if (0 ≤ ef ∧ ef ≤ 4) ∧ (0 ≤ eb ∧ eb ≤ 4) then mArg 0 (mUnev σ ef eb) 11 else -2) else -3)) zNo := by
  refine z_start rfl (Nat.le_of_ble_eq_true rfl) hI ?_
  intro p e s m below meth c ls C hr hlocks hl hP
  have hl : lv_has ls 7 [(0, .ref (a 0)), (1, .int (iI ef)), (2, .int (iI eb))] := hl
  refine z_aload_n C hl 0 rfl dX7_evenest_0 ?_
  refine z_vSi C hP (As := []) lk_X7_122 (c_X7_areSeated hI σ  hth hse) ob_0 rfl rfl rfl hl.1 rfl (Nat.le_of_ble_eq_true rfl) ⟨Nat.le_of_ble_eq_true rfl, Nat.le_of_ble_eq_true rfl⟩ ⟨Nat.zero_le _, Nat.zero_le _⟩ dX7_evenest_1 ?_
  by_cases b_1 : σ (40 + σ 32 7) 0 = 1 ∧ σ (40 + σ 32 8) 0 = 1
  · rw [show (if σ (40 + σ 32 7) 0 = 1 ∧ σ (40 + σ 32 8) 0 = 1 then (1 : Int) else 0) = 1 from if_pos b_1]
    refine z_ifT_ne C 10 dX7_evenest_4 (by decide) ⟨by decide, by decide⟩ (by decide) ?_
    refine z_iload_n C hl 1 rfl dX7_evenest_10 ?_
    refine z_sSi C hP (As := [.int (iI ef)]) lk_X7_115 (c_X7_isEffort hI σ ef r1) rfl hl.1 rfl (Nat.le_of_ble_eq_true rfl) ⟨Nat.le_of_ble_eq_true rfl, Nat.le_of_ble_eq_true rfl⟩ ⟨Nat.zero_le _, Nat.zero_le _⟩ dX7_evenest_11 ?_
    by_cases b_11 : 0 ≤ ef ∧ ef ≤ 4
    · rw [show (if 0 ≤ ef ∧ ef ≤ 4 then (1 : Int) else 0) = 1 from if_pos b_11]
      refine z_ifF_eq C 24 dX7_evenest_14 (by decide) ⟨by decide, by decide⟩ (by decide) ?_
      refine z_iload_n C hl 2 rfl dX7_evenest_17 ?_
      refine z_sSi C hP (As := [.int (iI eb)]) lk_X7_115 (c_X7_isEffort hI σ eb r2) rfl hl.1 rfl (Nat.le_of_ble_eq_true rfl) ⟨Nat.le_of_ble_eq_true rfl, Nat.le_of_ble_eq_true rfl⟩ ⟨Nat.zero_le _, Nat.zero_le _⟩ dX7_evenest_18 ?_
      by_cases b_18 : 0 ≤ eb ∧ eb ≤ 4
      · rw [show (if 0 ≤ eb ∧ eb ≤ 4 then (1 : Int) else 0) = 1 from if_pos b_18]
        refine z_ifT_ne C 27 dX7_evenest_21 (by decide) ⟨by decide, by decide⟩ (by decide) ?_
        refine z_iconst C dX7_evenest_27 ?_
        refine z_istore_n C [1, 2, 3, 0] [(0, .ref (a 0)), (1, .int (iI ef)), (2, .int (iI eb)), (3, .int (iI 0))] hl (by decide) rfl dX7_evenest_28 (fun ls hl => ?_)
        refine z_aload_n C hl 0 rfl dX7_evenest_29 ?_
        refine z_iload_n C hl 1 rfl dX7_evenest_30 ?_
        refine z_iload_n C hl 2 rfl dX7_evenest_31 ?_
        refine z_iconst C dX7_evenest_32 ?_
        refine z_vSi C hP (As := [.int (iI ef), .int (iI eb), .int (iI 0)]) lk_X7_219 (c_X7_unevenness hI σ ef eb 0 hse hrd (by omega) (by omega) (by omega)) ob_0 rfl rfl rfl hl.1 rfl (Nat.le_of_ble_eq_true rfl) ⟨Nat.le_of_ble_eq_true rfl, Nat.le_of_ble_eq_true rfl⟩ ⟨Nat.zero_le _, Nat.zero_le _⟩ dX7_evenest_33 ?_
        have hq0 := mUnev_b hse hrd (ef := ef) (eb := eb) (p0 := 0) (by omega) (by omega) (by omega)
        refine z_topi (fun x1 hx1 => ?_)
        refine z_istore C [1, 2, 3, 4, 0] [(0, .ref (a 0)), (1, .int (iI ef)), (2, .int (iI eb)), (3, .int (iI 0)), (4, .int (iI x1))] hl (by decide) rfl dX7_evenest_36 (fun ls hl => ?_)
        refine z_iconst C dX7_evenest_38 ?_
        refine z_istore C [1, 2, 3, 4, 5, 0] [(0, .ref (a 0)), (1, .int (iI ef)), (2, .int (iI eb)), (3, .int (iI 0)), (4, .int (iI x1)), (5, .int (iI 1))] hl (by decide) rfl dX7_evenest_39 (fun ls hl => ?_)
        have L_41 : ∀ (n : Nat) (ev : Int) (ls0 : Int) (p0 : Int) (ls : Array Slot), (1 ≤ p0 ∧ p0 ≤ 12) → (ev = mArg 0 (mUnev σ ef eb) (p0 - 1 - 0).toNat) → (ls0 = mUnev σ ef eb ev) → (0 ≤ ev ∧ ev ≤ 11) → (-1000000000 ≤ ls0 ∧ ls0 ≤ 1000) → ((12 - p0).toNat) < n → lv_has ls 7 [(0, .ref (a 0)), (1, .int (iI ef)), (2, .int (iI eb)), (3, .int (iI ev)), (4, .int (iI ls0)), (5, .int (iI p0))] → W p l e (zR 3) s m ([.ref (a 0), .int (iI ef), .int (iI eb)] : List Value).toArray below meth c s.heap [] 0 0 (MQ below (zSi (if σ (40 + σ 32 7) 0 = 1 ∧ σ (40 + σ 32 8) 0 = 1 then (if (0 ≤ ef ∧ ef ≤ 4) ∧ (0 ≤ eb ∧ eb ≤ 4) then mArg 0 (mUnev σ ef eb) 11 else -2) else -3)) ([.ref (a 0), .int (iI ef), .int (iI eb)] : List Value).toArray s 0 0 zNo) (F0 m 41 ls []) := by
          intro n
          induction n with
          | zero =>
            intros; omega
          | succ n ih_41 =>
            intro ev ls0 p0 ls ip iv iw ie iz hm hl
            refine z_iload C hl 5 rfl dX7_evenest_41 ?_
            refine z_bipush C (by decide +kernel) dX7_evenest_43 ?_
            refine z_icmp_ge C 78 dX7_evenest_45 (by decide) ⟨by omega, by omega⟩ ⟨by omega, by omega⟩ (fun c_45 => ?_) (fun c_45 => ?_)
            · refine z_iload_n C hl 3 rfl dX7_evenest_78 ?_
              exact z_retSi C hr hlocks rfl (by first | (rw [if_neg b_1]; done) | (rw [if_pos b_1, if_neg (by omega)]; done) | (rw [if_pos b_1, if_pos (by omega), iv, show p0 = 12 from (by omega)]; rfl)) dX7_evenest_79
            · refine z_aload_n C hl 0 rfl dX7_evenest_48 ?_
              refine z_iload_n C hl 1 rfl dX7_evenest_49 ?_
              refine z_iload_n C hl 2 rfl dX7_evenest_50 ?_
              refine z_iload C hl 5 rfl dX7_evenest_51 ?_
              refine z_vSi C hP (As := [.int (iI ef), .int (iI eb), .int (iI p0)]) lk_X7_219 (c_X7_unevenness hI σ ef eb p0 hse hrd (by omega) (by omega) (by omega)) ob_0 rfl rfl rfl hl.1 rfl (Nat.le_of_ble_eq_true rfl) ⟨Nat.le_of_ble_eq_true rfl, Nat.le_of_ble_eq_true rfl⟩ ⟨Nat.zero_le _, Nat.zero_le _⟩ dX7_evenest_53 ?_
              have hqp := mUnev_b hse hrd (ef := ef) (eb := eb) (p0 := p0) (by omega) (by omega) (by omega)
              refine z_topi (fun x2 hx2 => ?_)
              refine z_istore C [1, 2, 3, 4, 5, 6, 0] [(0, .ref (a 0)), (1, .int (iI ef)), (2, .int (iI eb)), (3, .int (iI ev)), (4, .int (iI ls0)), (5, .int (iI p0)), (6, .int (iI x2))] hl (by decide) rfl dX7_evenest_56 (fun ls hl => ?_)
              refine z_iload C hl 6 rfl dX7_evenest_58 ?_
              refine z_iload C hl 4 rfl dX7_evenest_60 ?_
              refine z_icmp_ge C 72 dX7_evenest_62 (by decide) ⟨by omega, by omega⟩ ⟨by omega, by omega⟩ (fun c_62 => ?_) (fun c_62 => ?_)
              · refine z_iinc C 5 [1, 2, 3, 4, 5, 0, 6] [(0, .ref (a 0)), (1, .int (iI ef)), (2, .int (iI eb)), (3, .int (iI ev)), (4, .int (iI ls0)), (5, .int (iI (p0 + 1))), (6, .int (iI x2))] hl rfl (by decide) rfl dX7_evenest_72 (fun ls hl => ?_)
                refine z_goto C 41 dX7_evenest_75 (by decide) ?_
                exact ih_41 ev ls0 (p0 + 1) ls (by omega) (by have hst := mArg_s 0 (mUnev σ ef eb) (b := p0 - 1) (by omega); rw [show p0 - 1 + 1 = p0 from (by omega)] at hst; rw [show p0 + 1 - 1 - 0 = p0 - 0 from (by omega), hst, ← iv, ← iw]; first | (rw [if_pos (by omega)]; done) | (rw [if_neg (by omega)]; done)) (by first | assumption | omega) (by omega) (by omega) (by omega) (lv_sub hl [0, 1, 2, 3, 4, 5] rfl)
              · refine z_iload C hl 6 rfl dX7_evenest_65 ?_
                refine z_istore C [1, 2, 3, 4, 0, 5, 6] [(0, .ref (a 0)), (1, .int (iI ef)), (2, .int (iI eb)), (3, .int (iI ev)), (4, .int (iI x2)), (5, .int (iI p0)), (6, .int (iI x2))] hl (by decide) rfl dX7_evenest_67 (fun ls hl => ?_)
                refine z_iload C hl 5 rfl dX7_evenest_69 ?_
                refine z_istore_n C [1, 2, 3, 0, 4, 5, 6] [(0, .ref (a 0)), (1, .int (iI ef)), (2, .int (iI eb)), (3, .int (iI p0)), (4, .int (iI x2)), (5, .int (iI p0)), (6, .int (iI x2))] hl (by decide) rfl dX7_evenest_71 (fun ls hl => ?_)
                refine z_iinc C 5 [1, 2, 3, 4, 5, 0, 6] [(0, .ref (a 0)), (1, .int (iI ef)), (2, .int (iI eb)), (3, .int (iI p0)), (4, .int (iI x2)), (5, .int (iI (p0 + 1))), (6, .int (iI x2))] hl rfl (by decide) rfl dX7_evenest_72 (fun ls hl => ?_)
                refine z_goto C 41 dX7_evenest_75 (by decide) ?_
                exact ih_41 p0 x2 (p0 + 1) ls (by omega) (by have hst := mArg_s 0 (mUnev σ ef eb) (b := p0 - 1) (by omega); rw [show p0 - 1 + 1 = p0 from (by omega)] at hst; rw [show p0 + 1 - 1 - 0 = p0 - 0 from (by omega), hst, ← iv, ← iw]; first | (rw [if_pos (by omega)]; done) | (rw [if_neg (by omega)]; done)) (by first | assumption | omega) (by omega) (by omega) (by omega) (lv_sub hl [0, 1, 2, 3, 4, 5] rfl)
        exact L_41 _ 0 x1 1 ls (by omega) (by rfl) (by first | assumption | omega) (by omega) (by omega) (Nat.lt_succ_self _) (lv_sub hl [0, 1, 2, 3, 4, 5] rfl)
      · rw [show (if 0 ≤ eb ∧ eb ≤ 4 then (1 : Int) else 0) = 0 from if_neg b_18]
        refine z_ifF_ne C 27 dX7_evenest_21 (by decide) ⟨by decide, by decide⟩ (by decide) ?_
        refine z_bipush C (by decide +kernel) dX7_evenest_24 ?_
        exact z_retSi C hr hlocks rfl (by first | (rw [if_neg b_1]; done) | (rw [if_pos b_1, if_neg (by omega)]; done) | (rw [if_pos b_1, if_pos (by omega), iv, show p0 = 12 from (by omega)]; rfl)) dX7_evenest_26
    · rw [show (if 0 ≤ ef ∧ ef ≤ 4 then (1 : Int) else 0) = 0 from if_neg b_11]
      refine z_ifT_eq C 24 dX7_evenest_14 (by decide) ⟨by decide, by decide⟩ (by decide) ?_
      refine z_bipush C (by decide +kernel) dX7_evenest_24 ?_
      exact z_retSi C hr hlocks rfl (by first | (rw [if_neg b_1]; done) | (rw [if_pos b_1, if_neg (by omega)]; done) | (rw [if_pos b_1, if_pos (by omega), iv, show p0 = 12 from (by omega)]; rfl)) dX7_evenest_26
  · rw [show (if σ (40 + σ 32 7) 0 = 1 ∧ σ (40 + σ 32 8) 0 = 1 then (1 : Int) else 0) = 0 from if_neg b_1]
    refine z_ifF_ne C 10 dX7_evenest_4 (by decide) ⟨by decide, by decide⟩ (by decide) ?_
    refine z_bipush C (by decide +kernel) dX7_evenest_7 ?_
    exact z_retSi C hr hlocks rfl (by first | (rw [if_neg b_1]; done) | (rw [if_pos b_1, if_neg (by omega)]; done) | (rw [if_pos b_1, if_pos (by omega), iv, show p0 = 12 from (by omega)]; rfl)) dX7_evenest_9

set_option maxRecDepth 20000 in
set_option maxHeartbeats 4000000 in
theorem c_X7_tread {l : Launch} {D : va_G} {Y : Nat → ClassId} {a : Int → Nat} (hI : zI a) (σ : zS) (rr ef b : Int) (r1 : R3 rr) (r2 : R3 ef) (r3 : R3 b) (hth : ∀ r : Int, 0 ≤ r → r ≤ 3 → σ (40 + r) 0 = 0 ∨ σ (40 + r) 0 = 1) (hrd : ∀ r : Int, 0 ≤ r → r ≤ 3 → (0 ≤ σ (40 + r) 1 ∧ σ (40 + r) 1 ≤ 20) ∧ (0 ≤ σ (40 + r) 2 ∧ σ (40 + r) 2 ≤ 10) ∧ (0 ≤ σ (40 + r) 3 ∧ σ (40 + r) 3 ≤ 9) ∧ (0 ≤ σ (40 + r) 4 ∧ σ (40 + r) 4 ≤ 50)) : zMet l yX7_tread cX7_tread 4 (some .int) 2 (zPc D Y a σ [.ref (a 0), .int (iI rr), .int (iI ef), .int (iI b)]) (zSi (if 0 ≤ rr ∧ rr ≤ 3 ∧ σ (40 + rr) 0 = 1 then (if (0 ≤ ef ∧ ef ≤ 4) ∧ 4 ≤ b ∧ b ≤ 10 then mTread (σ (40 + rr) 1) (σ (40 + rr) 2) ef b else -2) else -1)) zNo := by
  refine z_start rfl (Nat.le_of_ble_eq_true rfl) hI ?_
  intro p e s m below meth c ls C hr hlocks hl hP
  have hl : lv_has ls 4 [(0, .ref (a 0)), (1, .int (iI rr)), (2, .int (iI ef)), (3, .int (iI b))] := hl
  refine z_aload_n C hl 0 rfl dX7_tread_0 ?_
  refine zg_X7_12 C hP dX7_tread_1 ?_
  refine z_iload_n C hl 1 rfl dX7_tread_4 ?_
  refine z_vSi C hP (As := [.int (iI rr)]) lk_X7_70 (c_X6_isThere hI σ rr r1 hth) (ob_set (by unfold zSet; omega)) rfl rfl rfl hl.1 rfl (Nat.le_of_ble_eq_true rfl) ⟨Nat.le_of_ble_eq_true rfl, Nat.le_of_ble_eq_true rfl⟩ ⟨Nat.zero_le _, Nat.zero_le _⟩ dX7_tread_5 ?_
  by_cases b_5 : 0 ≤ rr ∧ rr ≤ 3 ∧ σ (40 + rr) 0 = 1
  · rw [show (if 0 ≤ rr ∧ rr ≤ 3 ∧ σ (40 + rr) 0 = 1 then (1 : Int) else 0) = 1 from if_pos b_5]
    refine z_ifT_ne C 13 dX7_tread_8 (by decide) ⟨by decide, by decide⟩ (by decide) ?_
    refine z_iload_n C hl 2 rfl dX7_tread_13 ?_
    refine z_sSi C hP (As := [.int (iI ef)]) lk_X7_115 (c_X7_isEffort hI σ ef r2) rfl hl.1 rfl (Nat.le_of_ble_eq_true rfl) ⟨Nat.le_of_ble_eq_true rfl, Nat.le_of_ble_eq_true rfl⟩ ⟨Nat.zero_le _, Nat.zero_le _⟩ dX7_tread_14 ?_
    by_cases b_14 : 0 ≤ ef ∧ ef ≤ 4
    · rw [show (if 0 ≤ ef ∧ ef ≤ 4 then (1 : Int) else 0) = 1 from if_pos b_14]
      refine z_ifF_eq C 30 dX7_tread_17 (by decide) ⟨by decide, by decide⟩ (by decide) ?_
      refine z_iload_n C hl 3 rfl dX7_tread_20 ?_
      refine z_iconst C dX7_tread_21 ?_
      refine z_bipush C (by decide +kernel) dX7_tread_22 ?_
      refine z_sSi C hP (As := [.int (iI b), .int (iI 4), .int (iI 10)]) lk_X7_52 (c_X7_isWithin hI σ b 4 10 r3 ⟨by decide, by decide⟩ ⟨by decide, by decide⟩) rfl hl.1 rfl (Nat.le_of_ble_eq_true rfl) ⟨Nat.le_of_ble_eq_true rfl, Nat.le_of_ble_eq_true rfl⟩ ⟨Nat.zero_le _, Nat.zero_le _⟩ dX7_tread_24 ?_
      by_cases b_24 : 4 ≤ b ∧ b ≤ 10
      · rw [show (if 4 ≤ b ∧ b ≤ 10 then (1 : Int) else 0) = 1 from if_pos b_24]
        refine z_ifT_ne C 33 dX7_tread_27 (by decide) ⟨by decide, by decide⟩ (by decide) ?_
        refine z_aload_n C hl 0 rfl dX7_tread_33 ?_
        refine zg_X7_12 C hP dX7_tread_34 ?_
        refine zg32_X7_56 C hP dX7_tread_37 ?_
        refine z_iload_n C hl 1 rfl dX7_tread_40 ?_
        refine z_aldR32 C hP ⟨by omega, by omega⟩ dX7_tread_41 ?_
        refine z_iload_n C hl 2 rfl dX7_tread_42 ?_
        refine z_iload_n C hl 3 rfl dX7_tread_43 ?_
        refine z_vSi C hP (As := [.int (iI ef), .int (iI b)]) lk_X7_118 (c_X4_treads hI σ (40 + rr) ef b (by unfold zRid; omega) (hrd rr (by omega) (by omega)).1 (hrd rr (by omega) (by omega)).2.1 (by omega) (by omega)) (ob_rid (by unfold zRid; omega)) rfl rfl rfl hl.1 rfl (Nat.le_of_ble_eq_true rfl) ⟨Nat.le_of_ble_eq_true rfl, Nat.le_of_ble_eq_true rfl⟩ ⟨Nat.zero_le _, Nat.zero_le _⟩ dX7_tread_44 ?_
        exact z_retSi C hr hlocks rfl (by first | (rw [if_neg (by omega)]; done) | (rw [if_pos (by omega), if_neg (by omega)]; done) | (rw [if_pos (by omega), if_pos (by omega)]; done)) dX7_tread_47
      · rw [show (if 4 ≤ b ∧ b ≤ 10 then (1 : Int) else 0) = 0 from if_neg b_24]
        refine z_ifF_ne C 33 dX7_tread_27 (by decide) ⟨by decide, by decide⟩ (by decide) ?_
        refine z_bipush C (by decide +kernel) dX7_tread_30 ?_
        exact z_retSi C hr hlocks rfl (by first | (rw [if_neg (by omega)]; done) | (rw [if_pos (by omega), if_neg (by omega)]; done) | (rw [if_pos (by omega), if_pos (by omega)]; done)) dX7_tread_32
    · rw [show (if 0 ≤ ef ∧ ef ≤ 4 then (1 : Int) else 0) = 0 from if_neg b_14]
      refine z_ifT_eq C 30 dX7_tread_17 (by decide) ⟨by decide, by decide⟩ (by decide) ?_
      refine z_bipush C (by decide +kernel) dX7_tread_30 ?_
      exact z_retSi C hr hlocks rfl (by first | (rw [if_neg (by omega)]; done) | (rw [if_pos (by omega), if_neg (by omega)]; done) | (rw [if_pos (by omega), if_pos (by omega)]; done)) dX7_tread_32
  · rw [show (if 0 ≤ rr ∧ rr ≤ 3 ∧ σ (40 + rr) 0 = 1 then (1 : Int) else 0) = 0 from if_neg b_5]
    refine z_ifF_ne C 13 dX7_tread_8 (by decide) ⟨by decide, by decide⟩ (by decide) ?_
    refine z_iconst C dX7_tread_11 ?_
    exact z_retSi C hr hlocks rfl (by first | (rw [if_neg (by omega)]; done) | (rw [if_pos (by omega), if_neg (by omega)]; done) | (rw [if_pos (by omega), if_pos (by omega)]; done)) dX7_tread_12

set_option maxRecDepth 20000 in
set_option maxHeartbeats 4000000 in
theorem c_X7_single {l : Launch} {D : va_G} {Y : Nat → ClassId} {a : Int → Nat} (hI : zI a) (σ : zS) (rr ef : Int) (r1 : R3 rr) (r2 : R3 ef) (hth : ∀ r : Int, 0 ≤ r → r ≤ 3 → σ (40 + r) 0 = 0 ∨ σ (40 + r) 0 = 1) (hrd : ∀ r : Int, 0 ≤ r → r ≤ 3 → (0 ≤ σ (40 + r) 1 ∧ σ (40 + r) 1 ≤ 20) ∧ (0 ≤ σ (40 + r) 2 ∧ σ (40 + r) 2 ≤ 10) ∧ (0 ≤ σ (40 + r) 3 ∧ σ (40 + r) 3 ≤ 9) ∧ (0 ≤ σ (40 + r) 4 ∧ σ (40 + r) 4 ≤ 50)) (hn : 1 ≤ σ 32 12 ∧ σ 32 12 ≤ 24) (hg : ∀ i : Int, 0 ≤ i → i < 24 → -1 ≤ σ 35 i ∧ σ 35 i ≤ 6) : zMet l yX7_single cX7_single 3 (some .int) 3 (zPc D Y a σ [.ref (a 0), .int (iI rr), .int (iI ef)]) (zSi (if 0 ≤ rr ∧ rr ≤ 3 ∧ σ (40 + rr) 0 = 1 then (if 0 ≤ ef ∧ ef ≤ 4 then mSum (fun i => mSec (mHard (σ 35 i) / 2) (ef * σ (40 + rr) 1)) (σ 32 12).toNat else -2) else -1)) zNo := by
  refine z_start rfl (Nat.le_of_ble_eq_true rfl) hI ?_
  intro p e s m below meth c ls C hr hlocks hl hP
  have hl : lv_has ls 3 [(0, .ref (a 0)), (1, .int (iI rr)), (2, .int (iI ef))] := hl
  refine z_aload_n C hl 0 rfl dX7_single_0 ?_
  refine zg_X7_12 C hP dX7_single_1 ?_
  refine z_iload_n C hl 1 rfl dX7_single_4 ?_
  refine z_vSi C hP (As := [.int (iI rr)]) lk_X7_70 (c_X6_isThere hI σ rr r1 hth) (ob_set (by unfold zSet; omega)) rfl rfl rfl hl.1 rfl (Nat.le_of_ble_eq_true rfl) ⟨Nat.le_of_ble_eq_true rfl, Nat.le_of_ble_eq_true rfl⟩ ⟨Nat.zero_le _, Nat.zero_le _⟩ dX7_single_5 ?_
  by_cases b_5 : 0 ≤ rr ∧ rr ≤ 3 ∧ σ (40 + rr) 0 = 1
  · rw [show (if 0 ≤ rr ∧ rr ≤ 3 ∧ σ (40 + rr) 0 = 1 then (1 : Int) else 0) = 1 from if_pos b_5]
    refine z_ifT_ne C 13 dX7_single_8 (by decide) ⟨by decide, by decide⟩ (by decide) ?_
    refine z_iload_n C hl 2 rfl dX7_single_13 ?_
    refine z_sSi C hP (As := [.int (iI ef)]) lk_X7_115 (c_X7_isEffort hI σ ef r2) rfl hl.1 rfl (Nat.le_of_ble_eq_true rfl) ⟨Nat.le_of_ble_eq_true rfl, Nat.le_of_ble_eq_true rfl⟩ ⟨Nat.zero_le _, Nat.zero_le _⟩ dX7_single_14 ?_
    by_cases b_14 : 0 ≤ ef ∧ ef ≤ 4
    · rw [show (if 0 ≤ ef ∧ ef ≤ 4 then (1 : Int) else 0) = 1 from if_pos b_14]
      refine z_ifT_ne C 23 dX7_single_17 (by decide) ⟨by decide, by decide⟩ (by decide) ?_
      refine z_aload_n C hl 0 rfl dX7_single_23 ?_
      refine zg_X7_12 C hP dX7_single_24 ?_
      refine z_aload_n C hl 0 rfl dX7_single_27 ?_
      refine zg_X7_12 C hP dX7_single_28 ?_
      refine zg32_X7_56 C hP dX7_single_31 ?_
      refine z_iload_n C hl 1 rfl dX7_single_34 ?_
      refine z_aldR32 C hP ⟨by omega, by omega⟩ dX7_single_35 ?_
      refine z_iload_n C hl 2 rfl dX7_single_36 ?_
      refine z_vSi C hP (As := [.int (iI ef)]) lk_X7_195 (c_X4_treadsAsLiked hI σ (40 + rr) ef (by unfold zRid; omega)) (ob_rid (by unfold zRid; omega)) rfl rfl rfl hl.1 rfl (Nat.le_of_ble_eq_true rfl) ⟨Nat.le_of_ble_eq_true rfl, Nat.le_of_ble_eq_true rfl⟩ ⟨Nat.zero_le _, Nat.zero_le _⟩ dX7_single_37 ?_
      have hpr := mulb (A := 4) (B := 20) (x := ef) (y := σ (40 + rr) 1) (by omega) (hrd rr (by omega) (by omega)).1
      refine z_vSi C hP (As := [.int (iI (ef * σ (40 + rr) 1))]) lk_X7_199 (c_X6_secondsAlone hI σ (ef * σ (40 + rr) 1) hn hg (by omega)) (ob_set (by unfold zSet; omega)) rfl rfl rfl hl.1 rfl (Nat.le_of_ble_eq_true rfl) ⟨Nat.le_of_ble_eq_true rfl, Nat.le_of_ble_eq_true rfl⟩ ⟨Nat.zero_le _, Nat.zero_le _⟩ dX7_single_40 ?_
      exact z_retSi C hr hlocks rfl (by first | (rw [if_neg (by omega)]; done) | (rw [if_pos (by omega), if_neg (by omega)]; done) | (rw [if_pos (by omega), if_pos (by omega)]; done)) dX7_single_43
    · rw [show (if 0 ≤ ef ∧ ef ≤ 4 then (1 : Int) else 0) = 0 from if_neg b_14]
      refine z_ifF_ne C 23 dX7_single_17 (by decide) ⟨by decide, by decide⟩ (by decide) ?_
      refine z_bipush C (by decide +kernel) dX7_single_20 ?_
      exact z_retSi C hr hlocks rfl (by first | (rw [if_neg (by omega)]; done) | (rw [if_pos (by omega), if_neg (by omega)]; done) | (rw [if_pos (by omega), if_pos (by omega)]; done)) dX7_single_22
  · rw [show (if 0 ≤ rr ∧ rr ≤ 3 ∧ σ (40 + rr) 0 = 1 then (1 : Int) else 0) = 0 from if_neg b_5]
    refine z_ifF_ne C 13 dX7_single_8 (by decide) ⟨by decide, by decide⟩ (by decide) ?_
    refine z_iconst C dX7_single_11 ?_
    exact z_retSi C hr hlocks rfl (by first | (rw [if_neg (by omega)]; done) | (rw [if_pos (by omega), if_neg (by omega)]; done) | (rw [if_pos (by omega), if_pos (by omega)]; done)) dX7_single_12

set_option maxRecDepth 20000 in
set_option maxHeartbeats 4000000 in
theorem c_X6_timesHold {l : Launch} {D : va_G} {Y : Nat → ClassId} {a : Int → Nat} (hI : zI a) (σ : zS) (rr str : Int) (htm : 0 ≤ σ 32 13 ∧ σ 32 13 ≤ 6) (hti : ∀ i : Int, 0 ≤ i → i < 6 → (0 ≤ σ 36 i ∧ σ 36 i ≤ 3) ∧ (0 ≤ σ 37 i ∧ σ 37 i ≤ 4) ∧ (0 ≤ σ 38 i ∧ σ 38 i ≤ 4) ∧ (0 ≤ σ 39 i ∧ σ 39 i ≤ 300)) (hr0 : 0 ≤ rr ∧ rr ≤ 3) (hs0 : 1 ≤ str ∧ str ≤ 20) : zMet l yX6_timesHold cX6_timesHold 5 (some .boolean) 2 (zPc D Y a σ [.ref (a 32), .int (iI rr), .int (iI str)]) (zSi (mB (mHold σ rr str))) zNo := by
  refine z_start rfl (Nat.le_of_ble_eq_true rfl) hI ?_
  intro p e s m below meth c ls C hr hlocks hl hP
  have hl : lv_has ls 5 [(0, .ref (a 32)), (1, .int (iI rr)), (2, .int (iI str))] := hl
  refine z_iconst C dX6_timesHold_0 ?_
  refine z_istore_n C [1, 2, 3, 0] [(0, .ref (a 32)), (1, .int (iI rr)), (2, .int (iI str)), (3, .int (iI 0))] hl (by decide) rfl dX6_timesHold_1 (fun ls hl => ?_)
  have L_2 : ∀ (n : Nat) (i : Int) (ls : Array Slot), (0 ≤ i ∧ i ≤ σ 32 13) → (∀ j : Int, 0 ≤ j → j < i → σ 36 j ≠ rr ∨ mSec (mHard (σ 37 j) / 2) (σ 38 j * str) = σ 39 j) → ((σ 32 13 - i).toNat) < n → lv_has ls 5 [(0, .ref (a 32)), (1, .int (iI rr)), (2, .int (iI str)), (3, .int (iI i))] → W p l e (zR 2) s m ([.ref (a 32), .int (iI rr), .int (iI str)] : List Value).toArray below meth c s.heap [] 0 0 (MQ below (zSi (mB (mHold σ rr str))) ([.ref (a 32), .int (iI rr), .int (iI str)] : List Value).toArray s 0 0 zNo) (F0 m 2 ls []) := by
    intro n
    induction n with
    | zero =>
      intros; omega
    | succ n ih_2 =>
      intro i ls ii iv hm hl
      refine z_iload_n C hl 3 rfl dX6_timesHold_2 ?_
      refine z_aload_n C hl 0 rfl dX6_timesHold_3 ?_
      refine zg32_X6_55 C hP dX6_timesHold_4 ?_
      refine z_icmp_ge C 66 dX6_timesHold_7 (by decide) ⟨by omega, by omega⟩ ⟨by omega, by omega⟩ (fun c_7 => ?_) (fun c_7 => ?_)
      · refine z_iconst C dX6_timesHold_66 ?_
        exact z_retSi C hr hlocks (zNb (by omega)) (by rw [mB_t]; intro j h1 h2; exact iv j h1 (by omega)) dX6_timesHold_67
      · have hti0 := hti i (by omega) (by omega)
        have hhb := mHard_b (σ 37 i)
        have hpr := mulb (A := 4) (B := 20) (x := σ 38 i) (y := str) (by omega) (by omega)
        have hqb := mSec_b (h := mHard (σ 37 i) / 2) (t := σ 38 i * str) (by omega)
        refine z_aload_n C hl 0 rfl dX6_timesHold_10 ?_
        refine zg32_X6_24 C hP dX6_timesHold_11 ?_
        refine z_iload_n C hl 3 rfl dX6_timesHold_14 ?_
        refine z_iald C hP ia_36 ⟨by omega, by omega⟩ dX6_timesHold_15 ?_
        refine z_iload_n C hl 1 rfl dX6_timesHold_16 ?_
        refine z_icmp_eq C 23 dX6_timesHold_17 (by decide) ⟨by omega, by omega⟩ ⟨by omega, by omega⟩ (fun c_17 => ?_) (fun c_17 => ?_)
        · refine z_aload_n C hl 0 rfl dX6_timesHold_23 ?_
          refine zg32_X6_27 C hP dX6_timesHold_24 ?_
          refine z_iload_n C hl 3 rfl dX6_timesHold_27 ?_
          refine z_iald C hP ia_37 ⟨by omega, by omega⟩ dX6_timesHold_28 ?_
          refine z_sSi C hP (As := [.int (iI (σ 37 i))]) lk_X6_112 (c_X0_hardOf hI σ (σ 37 i) (by omega)) rfl hl.1 rfl (Nat.le_of_ble_eq_true rfl) ⟨Nat.le_of_ble_eq_true rfl, Nat.le_of_ble_eq_true rfl⟩ ⟨Nat.zero_le _, Nat.zero_le _⟩ dX6_timesHold_29 ?_
          refine z_iconst C dX6_timesHold_32 ?_
          refine z_idiv C ⟨by omega, by omega, by omega, by omega⟩ dX6_timesHold_33 ?_
          refine z_topi (fun x1 hx1 => ?_)
          refine z_istore C [1, 2, 3, 4, 0] [(0, .ref (a 32)), (1, .int (iI rr)), (2, .int (iI str)), (3, .int (iI i)), (4, .int (iI x1))] hl (by decide) rfl dX6_timesHold_34 (fun ls hl => ?_)
          refine z_iload C hl 4 rfl dX6_timesHold_36 ?_
          refine z_aload_n C hl 0 rfl dX6_timesHold_38 ?_
          refine zg32_X6_30 C hP dX6_timesHold_39 ?_
          refine z_iload_n C hl 3 rfl dX6_timesHold_42 ?_
          refine z_iald C hP ia_38 ⟨by omega, by omega⟩ dX6_timesHold_43 ?_
          refine z_iload_n C hl 2 rfl dX6_timesHold_44 ?_
          refine z_imul C dX6_timesHold_45 ?_
          simp only [hx1] at hqb
          refine z_sSi C hP (As := [.int (iI x1), .int (iI ((σ 38 i) * str))]) lk_X6_115 (c_X0_secondsOf hI σ x1 ((σ 38 i) * str) (by omega) (by omega)) rfl hl.1 rfl (Nat.le_of_ble_eq_true rfl) ⟨Nat.le_of_ble_eq_true rfl, Nat.le_of_ble_eq_true rfl⟩ ⟨Nat.zero_le _, Nat.zero_le _⟩ dX6_timesHold_46 ?_
          refine z_aload_n C hl 0 rfl dX6_timesHold_49 ?_
          refine zg32_X6_33 C hP dX6_timesHold_50 ?_
          refine z_iload_n C hl 3 rfl dX6_timesHold_53 ?_
          refine z_iald C hP ia_39 ⟨by omega, by omega⟩ dX6_timesHold_54 ?_
          refine z_icmp_eq C 60 dX6_timesHold_55 (by decide) ⟨by omega, by omega⟩ ⟨by omega, by omega⟩ (fun c_55 => ?_) (fun c_55 => ?_)
          · refine z_iinc C 3 [1, 2, 3, 0, 4] [(0, .ref (a 32)), (1, .int (iI rr)), (2, .int (iI str)), (3, .int (iI (i + 1))), (4, .int (iI x1))] hl rfl (by decide) rfl dX6_timesHold_60 (fun ls hl => ?_)
            refine z_goto C 2 dX6_timesHold_63 (by decide) ?_
            exact ih_2 (i + 1) ls (by omega) (by intro j h1 h2; (by_cases hj : j = i) <;> first | exact iv j h1 (by omega) | (subst hj; subst_vars; first | (exact Or.inl (by omega)) | (exact Or.inr (by omega)))) (by omega) (lv_sub hl [0, 1, 2, 3] rfl)
          · refine z_iconst C dX6_timesHold_58 ?_
            exact z_retSi C hr hlocks (zNb (by omega)) (by rw [mB_f]; intro hall; have := hall i (by omega) (by omega); subst_vars; omega) dX6_timesHold_59
        · refine z_goto C 60 dX6_timesHold_20 (by decide) ?_
          refine z_iinc C 3 [1, 2, 3, 0] [(0, .ref (a 32)), (1, .int (iI rr)), (2, .int (iI str)), (3, .int (iI (i + 1)))] hl rfl (by decide) rfl dX6_timesHold_60 (fun ls hl => ?_)
          refine z_goto C 2 dX6_timesHold_63 (by decide) ?_
          exact ih_2 (i + 1) ls (by omega) (by intro j h1 h2; (by_cases hj : j = i) <;> first | exact iv j h1 (by omega) | (subst hj; subst_vars; first | (exact Or.inl (by omega)) | (exact Or.inr (by omega)))) (by omega) (lv_sub hl [0, 1, 2, 3] rfl)
  exact L_2 _ 0 ls (by omega) (by intro j h1 h2; omega) (Nat.lt_succ_self _) (lv_sub hl [0, 1, 2, 3] rfl)
