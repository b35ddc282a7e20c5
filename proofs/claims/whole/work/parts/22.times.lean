theorem pow2_s {i : Int} (h : 0 ≤ i) : (2 : Int) ^ (i + 1).toNat = 2 * 2 ^ i.toNat := by
  have e : (i + 1).toNat = i.toNat + 1 := by omega
  rw [e, Int.pow_succ, Int.mul_comm]
theorem mBS_b {f : Int → Int} (h : ∀ i : Int, 0 ≤ i → f i = 0 ∨ f i = 2 ^ i.toNat) : ∀ n : Nat, 0 ≤ mSum f n ∧ mSum f n < 2 ^ n
  | 0 => ⟨Int.le_refl _, by simp [mSum]⟩
  | n + 1 => by
    have ih := mBS_b h n
    have hn := h n (by omega)
    rw [Int.toNat_natCast] at hn
    have e : (2 : Int) ^ (n + 1) = 2 * 2 ^ n := by rw [Int.pow_succ, Int.mul_comm]
    rw [e]
    show 0 ≤ mSum f n + f n ∧ mSum f n + f n < _
    omega
theorem two_le (r : Int) : ∀ n : Nat, (n : Int) ≤ 30 → (1 : Int) ≤ 2 ^ n ∧ (2 : Int) ^ n ≤ 1073741824
  | n, h => by
    have h1 : (2 : Nat) ^ n ≤ 2 ^ 30 := Nat.pow_le_pow_right (by omega) (by omega)
    have h2 : 1 ≤ (2 : Nat) ^ n := Nat.one_le_two_pow
    have e : ((2 ^ n : Nat) : Int) = 2 ^ n := by simp
    omega

set_option maxRecDepth 20000 in
set_option maxHeartbeats 4000000 in
theorem c_X7_strong {l : Launch} {D : va_G} {Y : Nat → ClassId} {a : Int → Nat} (hI : zI a) (σ : zS) (rr wh : Int) (r1 : R3 rr) (r2 : R3 wh) (hth : ∀ r : Int, 0 ≤ r → r ≤ 3 → σ (40 + r) 0 = 0 ∨ σ (40 + r) 0 = 1) (htm : 0 ≤ σ 32 13 ∧ σ 32 13 ≤ 6) (hti : ∀ i : Int, 0 ≤ i → i < 6 → (0 ≤ σ 36 i ∧ σ 36 i ≤ 3) ∧ (0 ≤ σ 37 i ∧ σ 37 i ≤ 4) ∧ (0 ≤ σ 38 i ∧ σ 38 i ≤ 4) ∧ (0 ≤ σ 39 i ∧ σ 39 i ≤ 300)) : zMet l yX7_strong cX7_strong 7 (some .int) 3 (zPc D Y a σ [.ref (a 0), .int (iI rr), .int (iI wh)]) (zSi (if 0 ≤ rr ∧ rr ≤ 3 ∧ σ (40 + rr) 0 = 1 then (if 0 ≤ wh ∧ wh ≤ 2 then (if wh = 0 then mSum (fun i => mB ((fun s0 => mHold σ rr s0) (i + 1))) 20 else if wh = 1 then mFst (fun s0 => mHold σ rr s0) 20 else mLst (fun s0 => mHold σ rr s0) 20) else -2) else -1)) zNo := by
  refine z_start rfl (Nat.le_of_ble_eq_true rfl) hI ?_
  intro p e s m below meth c ls C hr hlocks hl hP
  have hl : lv_has ls 7 [(0, .ref (a 0)), (1, .int (iI rr)), (2, .int (iI wh))] := hl
  refine z_aload_n C hl 0 rfl dX7_strong_0 ?_
  refine zg_X7_12 C hP dX7_strong_1 ?_
  refine z_iload_n C hl 1 rfl dX7_strong_4 ?_
  refine z_vSi C hP (As := [.int (iI rr)]) lk_X7_70 (c_X6_isThere hI σ rr r1 hth) (ob_set (by unfold zSet; omega)) rfl rfl rfl hl.1 rfl (Nat.le_of_ble_eq_true rfl) ⟨Nat.le_of_ble_eq_true rfl, Nat.le_of_ble_eq_true rfl⟩ ⟨Nat.zero_le _, Nat.zero_le _⟩ dX7_strong_5 ?_
  by_cases b_5 : 0 ≤ rr ∧ rr ≤ 3 ∧ σ (40 + rr) 0 = 1
  · rw [show (if 0 ≤ rr ∧ rr ≤ 3 ∧ σ (40 + rr) 0 = 1 then (1 : Int) else 0) = 1 from if_pos b_5]
    refine z_ifT_ne C 13 dX7_strong_8 (by decide) ⟨by decide, by decide⟩ (by decide) ?_
    refine z_iload_n C hl 2 rfl dX7_strong_13 ?_
    refine z_iconst C dX7_strong_14 ?_
    refine z_iconst C dX7_strong_15 ?_
    refine z_sSi C hP (As := [.int (iI wh), .int (iI 0), .int (iI 2)]) lk_X7_52 (c_X7_isWithin hI σ wh 0 2 r2 ⟨by decide, by decide⟩ ⟨by decide, by decide⟩) rfl hl.1 rfl (Nat.le_of_ble_eq_true rfl) ⟨Nat.le_of_ble_eq_true rfl, Nat.le_of_ble_eq_true rfl⟩ ⟨Nat.zero_le _, Nat.zero_le _⟩ dX7_strong_16 ?_
    by_cases b_16 : 0 ≤ wh ∧ wh ≤ 2
    · rw [show (if 0 ≤ wh ∧ wh ≤ 2 then (1 : Int) else 0) = 1 from if_pos b_16]
      refine z_ifT_ne C 25 dX7_strong_19 (by decide) ⟨by decide, by decide⟩ (by decide) ?_
      refine z_iconst C dX7_strong_25 ?_
      refine z_istore_n C [1, 2, 3, 0] [(0, .ref (a 0)), (1, .int (iI rr)), (2, .int (iI wh)), (3, .int (iI 0))] hl (by decide) rfl dX7_strong_26 (fun ls hl => ?_)
      refine z_bipush C (by decide +kernel) dX7_strong_27 ?_
      refine z_istore C [1, 2, 3, 4, 0] [(0, .ref (a 0)), (1, .int (iI rr)), (2, .int (iI wh)), (3, .int (iI 0)), (4, .int (iI (-6)))] hl (by decide) rfl dX7_strong_29 (fun ls hl => ?_)
      refine z_bipush C (by decide +kernel) dX7_strong_31 ?_
      refine z_istore C [1, 2, 3, 4, 5, 0] [(0, .ref (a 0)), (1, .int (iI rr)), (2, .int (iI wh)), (3, .int (iI 0)), (4, .int (iI (-6))), (5, .int (iI (-6)))] hl (by decide) rfl dX7_strong_33 (fun ls hl => ?_)
      refine z_iconst C dX7_strong_35 ?_
      refine z_istore C [1, 2, 3, 4, 5, 6, 0] [(0, .ref (a 0)), (1, .int (iI rr)), (2, .int (iI wh)), (3, .int (iI 0)), (4, .int (iI (-6))), (5, .int (iI (-6))), (6, .int (iI 1))] hl (by decide) rfl dX7_strong_36 (fun ls hl => ?_)
      have L_38 : ∀ (n : Nat) (ft : Int) (le : Int) (gr : Int) (s0 : Int) (ls : Array Slot), (1 ≤ s0 ∧ s0 ≤ 21) → (ft = mSum (fun i => mB ((fun s0 => mHold σ rr s0) (i + 1))) (s0 - 1).toNat) → (le = mFst (fun s0 => mHold σ rr s0) (s0 - 1).toNat) → (gr = mLst (fun s0 => mHold σ rr s0) (s0 - 1).toNat) → ((21 - s0).toNat) < n → lv_has ls 7 [(0, .ref (a 0)), (1, .int (iI rr)), (2, .int (iI wh)), (3, .int (iI ft)), (4, .int (iI le)), (5, .int (iI gr)), (6, .int (iI s0))] → W p l e (zR 3) s m ([.ref (a 0), .int (iI rr), .int (iI wh)] : List Value).toArray below meth c s.heap [] 0 0 (MQ below (zSi (if 0 ≤ rr ∧ rr ≤ 3 ∧ σ (40 + rr) 0 = 1 then (if 0 ≤ wh ∧ wh ≤ 2 then (if wh = 0 then mSum (fun i => mB ((fun s0 => mHold σ rr s0) (i + 1))) 20 else if wh = 1 then mFst (fun s0 => mHold σ rr s0) 20 else mLst (fun s0 => mHold σ rr s0) 20) else -2) else -1)) ([.ref (a 0), .int (iI rr), .int (iI wh)] : List Value).toArray s 0 0 zNo) (F0 m 38 ls []) := by
        intro n
        induction n with
        | zero =>
          intros; omega
        | succ n ih_38 =>
          intro ft le gr s0 ls is i1 i2 i3 hm hl
          have hfl := mFL_b (fun s0 => mHold σ rr s0) (s0 - 1).toNat
          rw [← i1, ← i2, ← i3] at hfl
          refine z_iload C hl 6 rfl dX7_strong_38 ?_
          refine z_bipush C (by decide +kernel) dX7_strong_40 ?_
          refine z_icmp_gt C 82 dX7_strong_42 (by decide) ⟨by omega, by omega⟩ ⟨by omega, by omega⟩ (fun c_42 => ?_) (fun c_42 => ?_)
          · refine z_iload_n C hl 2 rfl dX7_strong_82 ?_
            refine z_if_ne C 88 dX7_strong_83 (by decide) ⟨by omega, by omega⟩ (fun c_83 => ?_) (fun c_83 => ?_)
            · refine z_iload_n C hl 2 rfl dX7_strong_88 ?_
              refine z_iconst C dX7_strong_89 ?_
              refine z_icmp_ne C 98 dX7_strong_90 (by decide) ⟨by omega, by omega⟩ ⟨by omega, by omega⟩ (fun c_90 => ?_) (fun c_90 => ?_)
              · refine z_iload C hl 5 rfl dX7_strong_98 ?_
                exact z_retSi C hr hlocks rfl (by first | (rw [if_neg (by omega)]; done) | (rw [if_pos (by omega), if_neg (by omega)]; done) | (rw [if_pos (by omega), if_pos (by omega)]; rw [show (s0 - 1).toNat = 20 from (by omega)] at i1 i2 i3; first | (rw [if_pos (by omega)]; exact i1) | (rw [if_neg (by omega), if_pos (by omega)]; exact i2) | (rw [if_neg (by omega), if_neg (by omega)]; exact i3))) dX7_strong_100
              · refine z_iload C hl 4 rfl dX7_strong_93 ?_
                refine z_goto C 100 dX7_strong_95 (by decide) ?_
                exact z_retSi C hr hlocks rfl (by first | (rw [if_neg (by omega)]; done) | (rw [if_pos (by omega), if_neg (by omega)]; done) | (rw [if_pos (by omega), if_pos (by omega)]; rw [show (s0 - 1).toNat = 20 from (by omega)] at i1 i2 i3; first | (rw [if_pos (by omega)]; exact i1) | (rw [if_neg (by omega), if_pos (by omega)]; exact i2) | (rw [if_neg (by omega), if_neg (by omega)]; exact i3))) dX7_strong_100
            · refine z_iload_n C hl 3 rfl dX7_strong_86 ?_
              exact z_retSi C hr hlocks rfl (by first | (rw [if_neg (by omega)]; done) | (rw [if_pos (by omega), if_neg (by omega)]; done) | (rw [if_pos (by omega), if_pos (by omega)]; rw [show (s0 - 1).toNat = 20 from (by omega)] at i1 i2 i3; first | (rw [if_pos (by omega)]; exact i1) | (rw [if_neg (by omega), if_pos (by omega)]; exact i2) | (rw [if_neg (by omega), if_neg (by omega)]; exact i3))) dX7_strong_87
          · refine z_aload_n C hl 0 rfl dX7_strong_45 ?_
            refine zg_X7_12 C hP dX7_strong_46 ?_
            refine z_iload_n C hl 1 rfl dX7_strong_49 ?_
            refine z_iload C hl 6 rfl dX7_strong_50 ?_
            refine z_vSi C hP (As := [.int (iI rr), .int (iI s0)]) lk_X7_261 (c_X6_timesHold hI σ rr s0 htm hti (by omega) (by omega)) (ob_set (by unfold zSet; omega)) rfl rfl rfl hl.1 rfl (Nat.le_of_ble_eq_true rfl) ⟨Nat.le_of_ble_eq_true rfl, Nat.le_of_ble_eq_true rfl⟩ ⟨Nat.zero_le _, Nat.zero_le _⟩ dX7_strong_52 ?_
            by_cases b_52 : mHold σ rr s0
            · rw [show (mB (mHold σ rr s0)) = 1 from mB_t b_52]
              refine z_ifT_ne C 61 dX7_strong_55 (by decide) ⟨by decide, by decide⟩ (by decide) ?_
              refine z_iload_n C hl 3 rfl dX7_strong_61 ?_
              refine z_if_ne C 69 dX7_strong_62 (by decide) ⟨by omega, by omega⟩ (fun c_62 => ?_) (fun c_62 => ?_)
              · refine z_iload C hl 6 rfl dX7_strong_69 ?_
                refine z_istore C [1, 2, 3, 4, 5, 0, 6] [(0, .ref (a 0)), (1, .int (iI rr)), (2, .int (iI wh)), (3, .int (iI ft)), (4, .int (iI le)), (5, .int (iI s0)), (6, .int (iI s0))] hl (by decide) rfl dX7_strong_71 (fun ls hl => ?_)
                refine z_iinc C 3 [1, 2, 3, 0, 4, 5, 6] [(0, .ref (a 0)), (1, .int (iI rr)), (2, .int (iI wh)), (3, .int (iI (ft + 1))), (4, .int (iI le)), (5, .int (iI s0)), (6, .int (iI s0))] hl rfl (by decide) rfl dX7_strong_73 (fun ls hl => ?_)
                refine z_iinc C 6 [1, 2, 3, 4, 5, 6, 0] [(0, .ref (a 0)), (1, .int (iI rr)), (2, .int (iI wh)), (3, .int (iI (ft + 1))), (4, .int (iI le)), (5, .int (iI s0)), (6, .int (iI (s0 + 1)))] hl rfl (by decide) rfl dX7_strong_76 (fun ls hl => ?_)
                refine z_goto C 38 dX7_strong_79 (by decide) ?_
                exact ih_38 (ft + 1) le s0 (s0 + 1) ls (by omega) (by rw [show s0 + 1 - 1 = s0 from (by omega), mFit_s _ (by omega), ← i1]; first | (rw [mB_t b_52]; done) | (rw [mB_f b_52]; omega)) (by rw [show s0 + 1 - 1 = s0 from (by omega)]; first | (rw [mFst_t (by omega) b_52, ← i1, ← i2]; first | (rw [if_pos (by assumption)]; done) | (rw [if_neg (by assumption)]; done)) | (rw [mFst_f (by omega) b_52]; exact i2)) (by rw [show s0 + 1 - 1 = s0 from (by omega)]; first | (rw [mLst_t (by omega) b_52]; done) | (rw [mLst_f (by omega) b_52]; exact i3)) (by omega) (lv_sub hl [0, 1, 2, 3, 4, 5, 6] rfl)
              · refine z_iload C hl 6 rfl dX7_strong_65 ?_
                refine z_istore C [1, 2, 3, 4, 0, 5, 6] [(0, .ref (a 0)), (1, .int (iI rr)), (2, .int (iI wh)), (3, .int (iI ft)), (4, .int (iI s0)), (5, .int (iI gr)), (6, .int (iI s0))] hl (by decide) rfl dX7_strong_67 (fun ls hl => ?_)
                refine z_iload C hl 6 rfl dX7_strong_69 ?_
                refine z_istore C [1, 2, 3, 4, 5, 0, 6] [(0, .ref (a 0)), (1, .int (iI rr)), (2, .int (iI wh)), (3, .int (iI ft)), (4, .int (iI s0)), (5, .int (iI s0)), (6, .int (iI s0))] hl (by decide) rfl dX7_strong_71 (fun ls hl => ?_)
                refine z_iinc C 3 [1, 2, 3, 0, 4, 5, 6] [(0, .ref (a 0)), (1, .int (iI rr)), (2, .int (iI wh)), (3, .int (iI (ft + 1))), (4, .int (iI s0)), (5, .int (iI s0)), (6, .int (iI s0))] hl rfl (by decide) rfl dX7_strong_73 (fun ls hl => ?_)
                refine z_iinc C 6 [1, 2, 3, 4, 5, 6, 0] [(0, .ref (a 0)), (1, .int (iI rr)), (2, .int (iI wh)), (3, .int (iI (ft + 1))), (4, .int (iI s0)), (5, .int (iI s0)), (6, .int (iI (s0 + 1)))] hl rfl (by decide) rfl dX7_strong_76 (fun ls hl => ?_)
                refine z_goto C 38 dX7_strong_79 (by decide) ?_
                exact ih_38 (ft + 1) s0 s0 (s0 + 1) ls (by omega) (by rw [show s0 + 1 - 1 = s0 from (by omega), mFit_s _ (by omega), ← i1]; first | (rw [mB_t b_52]; done) | (rw [mB_f b_52]; omega)) (by rw [show s0 + 1 - 1 = s0 from (by omega)]; first | (rw [mFst_t (by omega) b_52, ← i1, ← i2]; first | (rw [if_pos (by assumption)]; done) | (rw [if_neg (by assumption)]; done)) | (rw [mFst_f (by omega) b_52]; exact i2)) (by rw [show s0 + 1 - 1 = s0 from (by omega)]; first | (rw [mLst_t (by omega) b_52]; done) | (rw [mLst_f (by omega) b_52]; exact i3)) (by omega) (lv_sub hl [0, 1, 2, 3, 4, 5, 6] rfl)
            · rw [show (mB (mHold σ rr s0)) = 0 from mB_f b_52]
              refine z_ifF_ne C 61 dX7_strong_55 (by decide) ⟨by decide, by decide⟩ (by decide) ?_
              refine z_goto C 76 dX7_strong_58 (by decide) ?_
              refine z_iinc C 6 [1, 2, 3, 4, 5, 6, 0] [(0, .ref (a 0)), (1, .int (iI rr)), (2, .int (iI wh)), (3, .int (iI ft)), (4, .int (iI le)), (5, .int (iI gr)), (6, .int (iI (s0 + 1)))] hl rfl (by decide) rfl dX7_strong_76 (fun ls hl => ?_)
              refine z_goto C 38 dX7_strong_79 (by decide) ?_
              exact ih_38 ft le gr (s0 + 1) ls (by omega) (by rw [show s0 + 1 - 1 = s0 from (by omega), mFit_s _ (by omega), ← i1]; first | (rw [mB_t b_52]; done) | (rw [mB_f b_52]; omega)) (by rw [show s0 + 1 - 1 = s0 from (by omega)]; first | (rw [mFst_t (by omega) b_52, ← i1, ← i2]; first | (rw [if_pos (by assumption)]; done) | (rw [if_neg (by assumption)]; done)) | (rw [mFst_f (by omega) b_52]; exact i2)) (by rw [show s0 + 1 - 1 = s0 from (by omega)]; first | (rw [mLst_t (by omega) b_52]; done) | (rw [mLst_f (by omega) b_52]; exact i3)) (by omega) (lv_sub hl [0, 1, 2, 3, 4, 5, 6] rfl)
      exact L_38 _ 0 (-6) (-6) 1 ls (by omega) (by rfl) (by rfl) (by rfl) (Nat.lt_succ_self _) (lv_sub hl [0, 1, 2, 3, 4, 5, 6] rfl)
    · rw [show (if 0 ≤ wh ∧ wh ≤ 2 then (1 : Int) else 0) = 0 from if_neg b_16]
      refine z_ifF_ne C 25 dX7_strong_19 (by decide) ⟨by decide, by decide⟩ (by decide) ?_
      refine z_bipush C (by decide +kernel) dX7_strong_22 ?_
      exact z_retSi C hr hlocks rfl (by first | (rw [if_neg (by omega)]; done) | (rw [if_pos (by omega), if_neg (by omega)]; done) | (rw [if_pos (by omega), if_pos (by omega)]; rw [show (s0 - 1).toNat = 20 from (by omega)] at i1 i2 i3; first | (rw [if_pos (by omega)]; exact i1) | (rw [if_neg (by omega), if_pos (by omega)]; exact i2) | (rw [if_neg (by omega), if_neg (by omega)]; exact i3))) dX7_strong_24
  · rw [show (if 0 ≤ rr ∧ rr ≤ 3 ∧ σ (40 + rr) 0 = 1 then (1 : Int) else 0) = 0 from if_neg b_5]
    refine z_ifF_ne C 13 dX7_strong_8 (by decide) ⟨by decide, by decide⟩ (by decide) ?_
    refine z_iconst C dX7_strong_11 ?_
    exact z_retSi C hr hlocks rfl (by first | (rw [if_neg (by omega)]; done) | (rw [if_pos (by omega), if_neg (by omega)]; done) | (rw [if_pos (by omega), if_pos (by omega)]; rw [show (s0 - 1).toNat = 20 from (by omega)] at i1 i2 i3; first | (rw [if_pos (by omega)]; exact i1) | (rw [if_neg (by omega), if_pos (by omega)]; exact i2) | (rw [if_neg (by omega), if_neg (by omega)]; exact i3))) dX7_strong_12

def mAddT (σ : zS) (rr so ef v : Int) : zS := zU (zU (zU (zU (zU σ 36 (σ 32 13) rr) 37 (σ 32 13) so) 38 (σ 32 13) ef) 39 (σ 32 13) v) 32 13 (σ 32 13 + 1)
set_option maxRecDepth 20000 in
set_option maxHeartbeats 4000000 in
theorem c_X6_addTime {l : Launch} {D : va_G} {Y : Nat → ClassId} {a : Int → Nat} (hI : zI a) (σ : zS) (rr so ef v : Int) (ht0 : 0 ≤ σ 32 13 ∧ σ 32 13 < 6) : zMet l yX6_addTime cX6_addTime 5 none 0 (zPc D Y a σ [.ref (a 32), .int (iI rr), .int (iI so), .int (iI ef), .int (iI v)]) (zQv D Y a (fun τ => τ = mAddT σ rr so ef v)) (inA a) := by
  refine z_start rfl (Nat.le_of_ble_eq_true rfl) hI ?_
  intro p e s m below meth c ls C hr hlocks hl hP
  have hS : va_S (inA a) s.heap s.heap [] := va_S.rf
  have hl : lv_has ls 5 [(0, .ref (a 32)), (1, .int (iI rr)), (2, .int (iI so)), (3, .int (iI ef)), (4, .int (iI v))] := hl
  skip
  refine z_aload_n C hl 0 rfl dX6_addTime_0 ?_
  refine zg32_X6_55 C hP dX6_addTime_1 ?_
  refine z_if_lt C 16 dX6_addTime_4 (by decide) ⟨by omega, by omega⟩ (fun c_4 => ?_) (fun c_4 => ?_)
  · exact z_retQv C hP hS hr hlocks (by first | (exfalso; omega) | (subst_vars; rfl)) dX6_addTime_16
  · refine z_aload_n C hl 0 rfl dX6_addTime_7 ?_
    refine zg32_X6_55 C hP dX6_addTime_8 ?_
    refine z_bipush C (by decide +kernel) dX6_addTime_11 ?_
    refine z_icmp_lt C 17 dX6_addTime_13 (by decide) ⟨by omega, by omega⟩ ⟨by omega, by omega⟩ (fun c_13 => ?_) (fun c_13 => ?_)
    · refine z_aload_n C hl 0 rfl dX6_addTime_17 ?_
      refine zg32_X6_24 C hP dX6_addTime_18 ?_
      refine z_aload_n C hl 0 rfl dX6_addTime_21 ?_
      refine zg32_X6_55 C hP dX6_addTime_22 ?_
      refine z_iload_n C hl 1 rfl dX6_addTime_25 ?_
      refine z_iast C hP hS ia_36 ⟨by omega, by omega⟩ dX6_addTime_26 (fun H locs hP hS => ?_)
      obtain ⟨t1, et1⟩ : ∃ z : zS, z = zU σ 36 (σ 32 13) rr := ⟨_, rfl⟩
      rw [← et1] at hP
      refine z_aload_n C hl 0 rfl dX6_addTime_27 ?_
      refine zg32_X6_27 C hP dX6_addTime_28 ?_
      refine z_aload_n C hl 0 rfl dX6_addTime_31 ?_
      refine zg32_X6_55 C hP dX6_addTime_32 ?_
      rw [show t1 32 13 = σ 32 13 from by rw [et1, zU_cell (by decide)]]
      refine z_iload_n C hl 2 rfl dX6_addTime_35 ?_
      refine z_iast C hP hS ia_37 ⟨by omega, by omega⟩ dX6_addTime_36 (fun H locs hP hS => ?_)
      obtain ⟨t2, et2⟩ : ∃ z : zS, z = zU t1 37 (σ 32 13) so := ⟨_, rfl⟩
      rw [← et2] at hP
      refine z_aload_n C hl 0 rfl dX6_addTime_37 ?_
      refine zg32_X6_30 C hP dX6_addTime_38 ?_
      refine z_aload_n C hl 0 rfl dX6_addTime_41 ?_
      refine zg32_X6_55 C hP dX6_addTime_42 ?_
      rw [show t2 32 13 = σ 32 13 from by rw [et2, zU_cell (by decide), et1, zU_cell (by decide)]]
      refine z_iload_n C hl 3 rfl dX6_addTime_45 ?_
      refine z_iast C hP hS ia_38 ⟨by omega, by omega⟩ dX6_addTime_46 (fun H locs hP hS => ?_)
      obtain ⟨t3, et3⟩ : ∃ z : zS, z = zU t2 38 (σ 32 13) ef := ⟨_, rfl⟩
      rw [← et3] at hP
      refine z_aload_n C hl 0 rfl dX6_addTime_47 ?_
      refine zg32_X6_33 C hP dX6_addTime_48 ?_
      refine z_aload_n C hl 0 rfl dX6_addTime_51 ?_
      refine zg32_X6_55 C hP dX6_addTime_52 ?_
      rw [show t3 32 13 = σ 32 13 from by rw [et3, zU_cell (by decide), et2, zU_cell (by decide), et1, zU_cell (by decide)]]
      refine z_iload C hl 4 rfl dX6_addTime_55 ?_
      refine z_iast C hP hS ia_39 ⟨by omega, by omega⟩ dX6_addTime_57 (fun H locs hP hS => ?_)
      obtain ⟨t4, et4⟩ : ∃ z : zS, z = zU t3 39 (σ 32 13) v := ⟨_, rfl⟩
      rw [← et4] at hP
      refine z_aload_n C hl 0 rfl dX6_addTime_58 ?_
      refine z_dup C rfl dX6_addTime_59 ?_
      refine zg32_X6_55 C hP dX6_addTime_60 ?_
      rw [show t4 32 13 = σ 32 13 from by rw [et4, zU_cell (by decide), et3, zU_cell (by decide), et2, zU_cell (by decide), et1, zU_cell (by decide)]]
      refine z_iconst C dX6_addTime_63 ?_
      refine z_iadd C dX6_addTime_64 ?_
      refine zp32_X6_55 C hP hS dX6_addTime_65 (fun H locs hP hS => ?_)
      obtain ⟨t5, et5⟩ : ∃ z : zS, z = zU t4 32 13 ((σ 32 13) + 1) := ⟨_, rfl⟩
      rw [← et5] at hP
      exact z_retQv C hP hS hr hlocks (by first | (exfalso; omega) | (subst_vars; rfl)) dX6_addTime_68
    · exact z_retQv C hP hS hr hlocks (by first | (exfalso; omega) | (subst_vars; rfl)) dX6_addTime_16

set_option maxRecDepth 20000 in
set_option maxHeartbeats 4000000 in
theorem c_X7_time {l : Launch} {D : va_G} {Y : Nat → ClassId} {a : Int → Nat} (hI : zI a) (σ : zS) (rr so ef v : Int) (r1 : R3 rr) (r2 : R3 so) (r3 : R3 ef) (r4 : R3 v) (hth : ∀ r : Int, 0 ≤ r → r ≤ 3 → σ (40 + r) 0 = 0 ∨ σ (40 + r) 0 = 1) (htm : 0 ≤ σ 32 13 ∧ σ 32 13 ≤ 6) : zMet l yX7_time cX7_time 5 (some .int) 2 (zPc D Y a σ [.ref (a 0), .int (iI rr), .int (iI so), .int (iI ef), .int (iI v)]) (zQi D Y a (fun r τ => if ¬ (0 ≤ rr ∧ rr ≤ 3 ∧ σ (40 + rr) 0 = 1) then r = -1 ∧ τ = σ else if ¬ ((0 ≤ so ∧ so ≤ 4) ∧ (0 ≤ ef ∧ ef ≤ 4) ∧ 1 ≤ v ∧ v ≤ 300) then r = -2 ∧ τ = σ else if 6 ≤ σ 32 13 then r = -4 ∧ τ = σ else τ = mAddT σ rr so ef v ∧ r = σ 32 13 + 1)) (inA a) := by
  refine z_start rfl (Nat.le_of_ble_eq_true rfl) hI ?_
  intro p e s m below meth c ls C hr hlocks hl hP
  have hS : va_S (inA a) s.heap s.heap [] := va_S.rf
  have hl : lv_has ls 5 [(0, .ref (a 0)), (1, .int (iI rr)), (2, .int (iI so)), (3, .int (iI ef)), (4, .int (iI v))] := hl
  skip
  refine z_aload_n C hl 0 rfl dX7_time_0 ?_
  refine zg_X7_12 C hP dX7_time_1 ?_
  refine z_iload_n C hl 1 rfl dX7_time_4 ?_
  refine z_vSi C hP (As := [.int (iI rr)]) lk_X7_70 (c_X6_isThere hI σ rr r1 hth) (ob_set (by unfold zSet; omega)) rfl rfl rfl hl.1 rfl (Nat.le_of_ble_eq_true rfl) ⟨Nat.le_of_ble_eq_true rfl, Nat.le_of_ble_eq_true rfl⟩ ⟨Nat.zero_le _, Nat.zero_le _⟩ dX7_time_5 ?_
  by_cases b_5 : 0 ≤ rr ∧ rr ≤ 3 ∧ σ (40 + rr) 0 = 1
  · rw [show (if 0 ≤ rr ∧ rr ≤ 3 ∧ σ (40 + rr) 0 = 1 then (1 : Int) else 0) = 1 from if_pos b_5]
    refine z_ifT_ne C 13 dX7_time_8 (by decide) ⟨by decide, by decide⟩ (by decide) ?_
    refine z_iload_n C hl 2 rfl dX7_time_13 ?_
    refine z_iconst C dX7_time_14 ?_
    refine z_iconst C dX7_time_15 ?_
    refine z_sSi C hP (As := [.int (iI so), .int (iI 0), .int (iI 4)]) lk_X7_52 (c_X7_isWithin hI σ so 0 4 r2 ⟨by decide, by decide⟩ ⟨by decide, by decide⟩) rfl hl.1 rfl (Nat.le_of_ble_eq_true rfl) ⟨Nat.le_of_ble_eq_true rfl, Nat.le_of_ble_eq_true rfl⟩ ⟨Nat.zero_le _, Nat.zero_le _⟩ dX7_time_16 ?_
    by_cases b_16 : 0 ≤ so ∧ so ≤ 4
    · rw [show (if 0 ≤ so ∧ so ≤ 4 then (1 : Int) else 0) = 1 from if_pos b_16]
      refine z_ifF_eq C 41 dX7_time_19 (by decide) ⟨by decide, by decide⟩ (by decide) ?_
      refine z_iload_n C hl 3 rfl dX7_time_22 ?_
      refine z_sSi C hP (As := [.int (iI ef)]) lk_X7_115 (c_X7_isEffort hI σ ef r3) rfl hl.1 rfl (Nat.le_of_ble_eq_true rfl) ⟨Nat.le_of_ble_eq_true rfl, Nat.le_of_ble_eq_true rfl⟩ ⟨Nat.zero_le _, Nat.zero_le _⟩ dX7_time_23 ?_
      by_cases b_23 : 0 ≤ ef ∧ ef ≤ 4
      · rw [show (if 0 ≤ ef ∧ ef ≤ 4 then (1 : Int) else 0) = 1 from if_pos b_23]
        refine z_ifF_eq C 41 dX7_time_26 (by decide) ⟨by decide, by decide⟩ (by decide) ?_
        refine z_iload C hl 4 rfl dX7_time_29 ?_
        refine z_iconst C dX7_time_31 ?_
        refine z_sipush C (by decide +kernel) dX7_time_32 ?_
        refine z_sSi C hP (As := [.int (iI v), .int (iI 1), .int (iI 300)]) lk_X7_52 (c_X7_isWithin hI σ v 1 300 r4 ⟨by decide, by decide⟩ ⟨by decide, by decide⟩) rfl hl.1 rfl (Nat.le_of_ble_eq_true rfl) ⟨Nat.le_of_ble_eq_true rfl, Nat.le_of_ble_eq_true rfl⟩ ⟨Nat.zero_le _, Nat.zero_le _⟩ dX7_time_35 ?_
        by_cases b_35 : 1 ≤ v ∧ v ≤ 300
        · rw [show (if 1 ≤ v ∧ v ≤ 300 then (1 : Int) else 0) = 1 from if_pos b_35]
          refine z_ifT_ne C 44 dX7_time_38 (by decide) ⟨by decide, by decide⟩ (by decide) ?_
          refine z_aload_n C hl 0 rfl dX7_time_44 ?_
          refine zg_X7_12 C hP dX7_time_45 ?_
          refine zg32_X7_255 C hP dX7_time_48 ?_
          refine z_bipush C (by decide +kernel) dX7_time_51 ?_
          refine z_icmp_lt C 59 dX7_time_53 (by decide) ⟨by omega, by omega⟩ ⟨by omega, by omega⟩ (fun c_53 => ?_) (fun c_53 => ?_)
          · refine z_aload_n C hl 0 rfl dX7_time_59 ?_
            refine zg_X7_12 C hP dX7_time_60 ?_
            refine z_iload_n C hl 1 rfl dX7_time_63 ?_
            refine z_iload_n C hl 2 rfl dX7_time_64 ?_
            refine z_iload_n C hl 3 rfl dX7_time_65 ?_
            refine z_iload C hl 4 rfl dX7_time_66 ?_
            refine z_vQv hS C hP (As := [.int (iI rr), .int (iI so), .int (iI ef), .int (iI v)]) lk_X7_258 (c_X6_addTime hI σ rr so ef v (by omega)) (ob_set (by unfold zSet; omega)) rfl rfl rfl hl.1 rfl (Nat.le_of_ble_eq_true rfl) ⟨Nat.le_of_ble_eq_true rfl, Nat.le_of_ble_eq_true rfl⟩ ⟨Nat.zero_le _, Nat.zero_le _⟩ dX7_time_68 (fun t2 H locs hp68 hP hS => ?_)
            refine z_aload_n C hl 0 rfl dX7_time_71 ?_
            refine zg_X7_12 C hP dX7_time_72 ?_
            refine zg32_X7_255 C hP dX7_time_75 ?_
            exact z_retQi C hP hS hr hlocks rfl (by (repeat' split) <;> first | (exfalso; omega) | exact ⟨rfl, rfl⟩ | (subst_vars; exact ⟨rfl, by simp [mAddT, zU]⟩)) dX7_time_78
          · refine z_bipush C (by decide +kernel) dX7_time_56 ?_
            exact z_retQi C hP hS hr hlocks rfl (by (repeat' split) <;> first | (exfalso; omega) | exact ⟨rfl, rfl⟩ | (subst_vars; exact ⟨rfl, by simp [mAddT, zU]⟩)) dX7_time_58
        · rw [show (if 1 ≤ v ∧ v ≤ 300 then (1 : Int) else 0) = 0 from if_neg b_35]
          refine z_ifF_ne C 44 dX7_time_38 (by decide) ⟨by decide, by decide⟩ (by decide) ?_
          refine z_bipush C (by decide +kernel) dX7_time_41 ?_
          exact z_retQi C hP hS hr hlocks rfl (by (repeat' split) <;> first | (exfalso; omega) | exact ⟨rfl, rfl⟩ | (subst_vars; exact ⟨rfl, by simp [mAddT, zU]⟩)) dX7_time_43
      · rw [show (if 0 ≤ ef ∧ ef ≤ 4 then (1 : Int) else 0) = 0 from if_neg b_23]
        refine z_ifT_eq C 41 dX7_time_26 (by decide) ⟨by decide, by decide⟩ (by decide) ?_
        refine z_bipush C (by decide +kernel) dX7_time_41 ?_
        exact z_retQi C hP hS hr hlocks rfl (by (repeat' split) <;> first | (exfalso; omega) | exact ⟨rfl, rfl⟩ | (subst_vars; exact ⟨rfl, by simp [mAddT, zU]⟩)) dX7_time_43
    · rw [show (if 0 ≤ so ∧ so ≤ 4 then (1 : Int) else 0) = 0 from if_neg b_16]
      refine z_ifT_eq C 41 dX7_time_19 (by decide) ⟨by decide, by decide⟩ (by decide) ?_
      refine z_bipush C (by decide +kernel) dX7_time_41 ?_
      exact z_retQi C hP hS hr hlocks rfl (by (repeat' split) <;> first | (exfalso; omega) | exact ⟨rfl, rfl⟩ | (subst_vars; exact ⟨rfl, by simp [mAddT, zU]⟩)) dX7_time_43
  · rw [show (if 0 ≤ rr ∧ rr ≤ 3 ∧ σ (40 + rr) 0 = 1 then (1 : Int) else 0) = 0 from if_neg b_5]
    refine z_ifF_ne C 13 dX7_time_8 (by decide) ⟨by decide, by decide⟩ (by decide) ?_
    refine z_iconst C dX7_time_11 ?_
    exact z_retQi C hP hS hr hlocks rfl (by (repeat' split) <;> first | (exfalso; omega) | exact ⟨rfl, rfl⟩ | (subst_vars; exact ⟨rfl, by simp [mAddT, zU]⟩)) dX7_time_12

set_option maxRecDepth 20000 in
set_option maxHeartbeats 4000000 in
theorem c_X7_toldOfRider {l : Launch} {D : va_G} {Y : Nat → ClassId} {a : Int → Nat} (hI : zI a) (σ : zS) (rr wh : Int) (r1 : R3 rr) (r2 : R3 wh) (hth : ∀ r : Int, 0 ≤ r → r ≤ 3 → σ (40 + r) 0 = 0 ∨ σ (40 + r) 0 = 1) : zMet l yX7_toldOfRider cX7_toldOfRider 4 (some .int) 2 (zPc D Y a σ [.ref (a 0), .int (iI rr), .int (iI wh)]) (zSi (if 0 ≤ rr ∧ rr ≤ 3 ∧ σ (40 + rr) 0 = 1 then (if wh = 0 then σ (40 + rr) 1 else if wh = 1 then σ (40 + rr) 2 else if wh = 2 then σ (40 + rr) 3 else if wh = 3 then σ (40 + rr) 4 else -2) else -2)) zNo := by
  refine z_start rfl (Nat.le_of_ble_eq_true rfl) hI ?_
  intro p e s m below meth c ls C hr hlocks hl hP
  have hl : lv_has ls 4 [(0, .ref (a 0)), (1, .int (iI rr)), (2, .int (iI wh))] := hl
  refine z_aload_n C hl 0 rfl dX7_toldOfRider_0 ?_
  refine zg_X7_12 C hP dX7_toldOfRider_1 ?_
  refine z_iload_n C hl 1 rfl dX7_toldOfRider_4 ?_
  refine z_vSi C hP (As := [.int (iI rr)]) lk_X7_70 (c_X6_isThere hI σ rr r1 hth) (ob_set (by unfold zSet; omega)) rfl rfl rfl hl.1 rfl (Nat.le_of_ble_eq_true rfl) ⟨Nat.le_of_ble_eq_true rfl, Nat.le_of_ble_eq_true rfl⟩ ⟨Nat.zero_le _, Nat.zero_le _⟩ dX7_toldOfRider_5 ?_
  by_cases b_5 : 0 ≤ rr ∧ rr ≤ 3 ∧ σ (40 + rr) 0 = 1
  · rw [show (if 0 ≤ rr ∧ rr ≤ 3 ∧ σ (40 + rr) 0 = 1 then (1 : Int) else 0) = 1 from if_pos b_5]
    refine z_ifT_ne C 14 dX7_toldOfRider_8 (by decide) ⟨by decide, by decide⟩ (by decide) ?_
    refine z_aload_n C hl 0 rfl dX7_toldOfRider_14 ?_
    refine zg_X7_12 C hP dX7_toldOfRider_15 ?_
    refine zg32_X7_56 C hP dX7_toldOfRider_18 ?_
    refine z_iload_n C hl 1 rfl dX7_toldOfRider_21 ?_
    refine z_aldR32 C hP ⟨by omega, by omega⟩ dX7_toldOfRider_22 ?_
    refine z_astore_n C [1, 2, 3, 0] [(0, .ref (a 0)), (1, .int (iI rr)), (2, .int (iI wh)), (3, .ref (a (40 + rr)))] hl (by decide) rfl dX7_toldOfRider_23 (fun ls hl => ?_)
    refine z_iload_n C hl 2 rfl dX7_toldOfRider_24 ?_
    by_cases q_25_0 : wh = 0
    · refine z_tswIn C 0 q_25_0 ⟨⟨by decide, by decide⟩, by decide, by decide⟩ (off := 31) (by decide +kernel) 56 (by decide) dX7_toldOfRider_25 ?_
      refine z_aload_n C hl 3 rfl dX7_toldOfRider_56 ?_
      refine zg_X7_280 C hP (by unfold zRid; omega) dX7_toldOfRider_57 ?_
      exact z_retSi C hr hlocks rfl (by first | (rw [if_neg (by omega)]; done) | (rw [if_pos (by omega)]; simp [*])) dX7_toldOfRider_60
    by_cases q_25_1 : wh = 1
    · refine z_tswIn C 1 q_25_1 ⟨⟨by decide, by decide⟩, by decide, by decide⟩ (off := 36) (by decide +kernel) 61 (by decide) dX7_toldOfRider_25 ?_
      refine z_aload_n C hl 3 rfl dX7_toldOfRider_61 ?_
      refine zg_X7_283 C hP (by unfold zRid; omega) dX7_toldOfRider_62 ?_
      exact z_retSi C hr hlocks rfl (by first | (rw [if_neg (by omega)]; done) | (rw [if_pos (by omega)]; simp [*])) dX7_toldOfRider_65
    by_cases q_25_2 : wh = 2
    · refine z_tswIn C 2 q_25_2 ⟨⟨by decide, by decide⟩, by decide, by decide⟩ (off := 41) (by decide +kernel) 66 (by decide) dX7_toldOfRider_25 ?_
      refine z_aload_n C hl 3 rfl dX7_toldOfRider_66 ?_
      refine zg_X7_286 C hP (by unfold zRid; omega) dX7_toldOfRider_67 ?_
      exact z_retSi C hr hlocks rfl (by first | (rw [if_neg (by omega)]; done) | (rw [if_pos (by omega)]; simp [*])) dX7_toldOfRider_70
    by_cases q_25_3 : wh = 3
    · refine z_tswIn C 3 q_25_3 ⟨⟨by decide, by decide⟩, by decide, by decide⟩ (off := 46) (by decide +kernel) 71 (by decide) dX7_toldOfRider_25 ?_
      refine z_aload_n C hl 3 rfl dX7_toldOfRider_71 ?_
      refine zg_X7_289 C hP (by unfold zRid; omega) dX7_toldOfRider_72 ?_
      exact z_retSi C hr hlocks rfl (by first | (rw [if_neg (by omega)]; done) | (rw [if_pos (by omega)]; simp [*])) dX7_toldOfRider_75
    refine z_tswOut C ⟨by omega, by omega⟩ (by omega) 76 (by decide) dX7_toldOfRider_25 ?_
    refine z_bipush C (by decide +kernel) dX7_toldOfRider_76 ?_
    exact z_retSi C hr hlocks rfl (by first | (rw [if_neg (by omega)]; done) | (rw [if_pos (by omega)]; simp [*])) dX7_toldOfRider_78
  · rw [show (if 0 ≤ rr ∧ rr ≤ 3 ∧ σ (40 + rr) 0 = 1 then (1 : Int) else 0) = 0 from if_neg b_5]
    refine z_ifF_ne C 14 dX7_toldOfRider_8 (by decide) ⟨by decide, by decide⟩ (by decide) ?_
    refine z_bipush C (by decide +kernel) dX7_toldOfRider_11 ?_
    exact z_retSi C hr hlocks rfl (by first | (rw [if_neg (by omega)]; done) | (rw [if_pos (by omega)]; simp [*])) dX7_toldOfRider_13

set_option maxRecDepth 20000 in
set_option maxHeartbeats 4000000 in
theorem c_X7_told {l : Launch} {D : va_G} {Y : Nat → ClassId} {a : Int → Nat} (hI : zI a) (σ : zS) (wh : Int) (r1 : R3 wh) (hth : ∀ r : Int, 0 ≤ r → r ≤ 3 → σ (40 + r) 0 = 0 ∨ σ (40 + r) 0 = 1) (hn : 1 ≤ σ 32 12 ∧ σ 32 12 ≤ 24) : zMet l yX7_told cX7_told 2 (some .int) 3 (zPc D Y a σ [.ref (a 0), .int (iI wh)]) (zSi (if wh = 0 then σ 3 1 else if wh = 1 then mBits σ else if wh = 2 then σ 32 7 else if wh = 3 then σ 32 8 else if wh = 4 then σ 32 9 else if wh = 5 then σ 32 10 else if wh = 6 then σ 32 11 else if wh = 7 then σ 32 12 else if wh = 8 then σ 32 13 else if 100 ≤ wh ∧ wh ≤ 99 + σ 32 12 then σ 34 (wh - 100) else if 10 ≤ wh ∧ wh ≤ 49 then (if 0 ≤ wh / 10 - 1 ∧ wh / 10 - 1 ≤ 3 ∧ σ (40 + (wh / 10 - 1)) 0 = 1 then (if wh % 10 = 0 then σ (40 + (wh / 10 - 1)) 1 else if wh % 10 = 1 then σ (40 + (wh / 10 - 1)) 2 else if wh % 10 = 2 then σ (40 + (wh / 10 - 1)) 3 else if wh % 10 = 3 then σ (40 + (wh / 10 - 1)) 4 else -2) else -2) else -2)) zNo := by
  refine z_start rfl (Nat.le_of_ble_eq_true rfl) hI ?_
  intro p e s m below meth c ls C hr hlocks hl hP
  have hl : lv_has ls 2 [(0, .ref (a 0)), (1, .int (iI wh))] := hl
  refine z_iload_n C hl 1 rfl dX7_told_0 ?_
  by_cases q_1_0 : wh = 0
  · refine z_tswIn C 0 q_1_0 ⟨⟨by decide, by decide⟩, by decide, by decide⟩ (off := 51) (by decide +kernel) 52 (by decide) dX7_told_1 ?_
    refine z_aload_n C hl 0 rfl dX7_told_52 ?_
    refine zg_X7_27 C hP dX7_told_53 ?_
    refine zg_X7_94 C hP dX7_told_56 ?_
    exact z_retSi C hr hlocks rfl (by simp [*, mBits]; try omega) dX7_told_59
  by_cases q_1_1 : wh = 1
  · refine z_tswIn C 1 q_1_1 ⟨⟨by decide, by decide⟩, by decide, by decide⟩ (off := 59) (by decide +kernel) 60 (by decide) dX7_told_1 ?_
    refine z_aload_n C hl 0 rfl dX7_told_60 ?_
    refine zg_X7_12 C hP dX7_told_61 ?_
    refine z_vSi C hP (As := []) lk_X7_271 (c_X6_riderBits hI σ  (th4_of hth)) (ob_set (by unfold zSet; omega)) rfl rfl rfl hl.1 rfl (Nat.le_of_ble_eq_true rfl) ⟨Nat.le_of_ble_eq_true rfl, Nat.le_of_ble_eq_true rfl⟩ ⟨Nat.zero_le _, Nat.zero_le _⟩ dX7_told_64 ?_
    exact z_retSi C hr hlocks rfl (by simp [*, mBits]; try omega) dX7_told_67
  by_cases q_1_2 : wh = 2
  · refine z_tswIn C 2 q_1_2 ⟨⟨by decide, by decide⟩, by decide, by decide⟩ (off := 67) (by decide +kernel) 68 (by decide) dX7_told_1 ?_
    refine z_aload_n C hl 0 rfl dX7_told_68 ?_
    refine zg_X7_12 C hP dX7_told_69 ?_
    refine zg32_X7_78 C hP dX7_told_72 ?_
    exact z_retSi C hr hlocks rfl (by simp [*, mBits]; try omega) dX7_told_75
  by_cases q_1_3 : wh = 3
  · refine z_tswIn C 3 q_1_3 ⟨⟨by decide, by decide⟩, by decide, by decide⟩ (off := 75) (by decide +kernel) 76 (by decide) dX7_told_1 ?_
    refine z_aload_n C hl 0 rfl dX7_told_76 ?_
    refine zg_X7_12 C hP dX7_told_77 ?_
    refine zg32_X7_82 C hP dX7_told_80 ?_
    exact z_retSi C hr hlocks rfl (by simp [*, mBits]; try omega) dX7_told_83
  by_cases q_1_4 : wh = 4
  · refine z_tswIn C 4 q_1_4 ⟨⟨by decide, by decide⟩, by decide, by decide⟩ (off := 83) (by decide +kernel) 84 (by decide) dX7_told_1 ?_
    refine z_aload_n C hl 0 rfl dX7_told_84 ?_
    refine zg_X7_12 C hP dX7_told_85 ?_
    refine zg32_X7_85 C hP dX7_told_88 ?_
    exact z_retSi C hr hlocks rfl (by simp [*, mBits]; try omega) dX7_told_91
  by_cases q_1_5 : wh = 5
  · refine z_tswIn C 5 q_1_5 ⟨⟨by decide, by decide⟩, by decide, by decide⟩ (off := 91) (by decide +kernel) 92 (by decide) dX7_told_1 ?_
    refine z_aload_n C hl 0 rfl dX7_told_92 ?_
    refine zg_X7_12 C hP dX7_told_93 ?_
    refine zg32_X7_88 C hP dX7_told_96 ?_
    exact z_retSi C hr hlocks rfl (by simp [*, mBits]; try omega) dX7_told_99
  by_cases q_1_6 : wh = 6
  · refine z_tswIn C 6 q_1_6 ⟨⟨by decide, by decide⟩, by decide, by decide⟩ (off := 99) (by decide +kernel) 100 (by decide) dX7_told_1 ?_
    refine z_aload_n C hl 0 rfl dX7_told_100 ?_
    refine zg_X7_12 C hP dX7_told_101 ?_
    refine zg32_X7_91 C hP dX7_told_104 ?_
    exact z_retSi C hr hlocks rfl (by simp [*, mBits]; try omega) dX7_told_107
  by_cases q_1_7 : wh = 7
  · refine z_tswIn C 7 q_1_7 ⟨⟨by decide, by decide⟩, by decide, by decide⟩ (off := 107) (by decide +kernel) 108 (by decide) dX7_told_1 ?_
    refine z_aload_n C hl 0 rfl dX7_told_108 ?_
    refine zg_X7_12 C hP dX7_told_109 ?_
    refine zg32_X7_104 C hP dX7_told_112 ?_
    exact z_retSi C hr hlocks rfl (by simp [*, mBits]; try omega) dX7_told_115
  by_cases q_1_8 : wh = 8
  · refine z_tswIn C 8 q_1_8 ⟨⟨by decide, by decide⟩, by decide, by decide⟩ (off := 115) (by decide +kernel) 116 (by decide) dX7_told_1 ?_
    refine z_aload_n C hl 0 rfl dX7_told_116 ?_
    refine zg_X7_12 C hP dX7_told_117 ?_
    refine zg32_X7_255 C hP dX7_told_120 ?_
    exact z_retSi C hr hlocks rfl (by simp [*, mBits]; try omega) dX7_told_123
  refine z_tswOut C ⟨by omega, by omega⟩ (by omega) 124 (by decide) dX7_told_1 ?_
  refine z_iload_n C hl 1 rfl dX7_told_124 ?_
  refine z_bipush C (by decide +kernel) dX7_told_125 ?_
  refine z_bipush C (by decide +kernel) dX7_told_127 ?_
  refine z_aload_n C hl 0 rfl dX7_told_129 ?_
  refine zg_X7_12 C hP dX7_told_130 ?_
  refine zg32_X7_104 C hP dX7_told_133 ?_
  refine z_iadd C dX7_told_136 ?_
  refine z_sSi C hP (As := [.int (iI wh), .int (iI 100), .int (iI (99 + (σ 32 12)))]) lk_X7_52 (c_X7_isWithin hI σ wh 100 (99 + (σ 32 12)) r1 ⟨by decide, by decide⟩ ⟨by omega, by omega⟩) rfl hl.1 rfl (Nat.le_of_ble_eq_true rfl) ⟨Nat.le_of_ble_eq_true rfl, Nat.le_of_ble_eq_true rfl⟩ ⟨Nat.zero_le _, Nat.zero_le _⟩ dX7_told_137 ?_
  by_cases b_137 : 100 ≤ wh ∧ wh ≤ (99 + (σ 32 12))
  · rw [show (if 100 ≤ wh ∧ wh ≤ (99 + (σ 32 12)) then (1 : Int) else 0) = 1 from if_pos b_137]
    refine z_ifF_eq C 156 dX7_told_140 (by decide) ⟨by decide, by decide⟩ (by decide) ?_
    refine z_aload_n C hl 0 rfl dX7_told_143 ?_
    refine zg_X7_12 C hP dX7_told_144 ?_
    refine zg32_X7_274 C hP dX7_told_147 ?_
    refine z_iload_n C hl 1 rfl dX7_told_150 ?_
    refine z_bipush C (by decide +kernel) dX7_told_151 ?_
    refine z_isub C dX7_told_153 ?_
    refine z_iald C hP ia_34 ⟨by omega, by omega⟩ dX7_told_154 ?_
    exact z_retSi C hr hlocks rfl (by simp only [if_neg q_1_0, if_neg q_1_1, if_neg q_1_2, if_neg q_1_3, if_neg q_1_4, if_neg q_1_5, if_neg q_1_6, if_neg q_1_7, if_neg q_1_8, if_pos b_137]) dX7_told_155
  · rw [show (if 100 ≤ wh ∧ wh ≤ (99 + (σ 32 12)) then (1 : Int) else 0) = 0 from if_neg b_137]
    refine z_ifT_eq C 156 dX7_told_140 (by decide) ⟨by decide, by decide⟩ (by decide) ?_
    refine z_iload_n C hl 1 rfl dX7_told_156 ?_
    refine z_bipush C (by decide +kernel) dX7_told_157 ?_
    refine z_bipush C (by decide +kernel) dX7_told_159 ?_
    refine z_sSi C hP (As := [.int (iI wh), .int (iI 10), .int (iI 49)]) lk_X7_52 (c_X7_isWithin hI σ wh 10 49 r1 ⟨by decide, by decide⟩ ⟨by decide, by decide⟩) rfl hl.1 rfl (Nat.le_of_ble_eq_true rfl) ⟨Nat.le_of_ble_eq_true rfl, Nat.le_of_ble_eq_true rfl⟩ ⟨Nat.zero_le _, Nat.zero_le _⟩ dX7_told_161 ?_
    by_cases b_161 : 10 ≤ wh ∧ wh ≤ 49
    · rw [show (if 10 ≤ wh ∧ wh ≤ 49 then (1 : Int) else 0) = 1 from if_pos b_161]
      refine z_ifF_eq C 182 dX7_told_164 (by decide) ⟨by decide, by decide⟩ (by decide) ?_
      refine z_aload_n C hl 0 rfl dX7_told_167 ?_
      refine z_iload_n C hl 1 rfl dX7_told_168 ?_
      refine z_bipush C (by decide +kernel) dX7_told_169 ?_
      refine z_idiv C ⟨by omega, by omega, by omega, by omega⟩ dX7_told_171 ?_
      refine z_iconst C dX7_told_172 ?_
      refine z_isub C dX7_told_173 ?_
      refine z_iload_n C hl 1 rfl dX7_told_174 ?_
      refine z_bipush C (by decide +kernel) dX7_told_175 ?_
      refine z_irem C ⟨by omega, by omega, by omega, by omega⟩ dX7_told_177 ?_
      refine z_vSi C hP (As := [.int (iI ((wh / 10) - 1)), .int (iI (wh % 10))]) lk_X7_277 (c_X7_toldOfRider hI σ ((wh / 10) - 1) (wh % 10) ⟨by omega, by omega⟩ ⟨by omega, by omega⟩ hth) ob_0 rfl rfl rfl hl.1 rfl (Nat.le_of_ble_eq_true rfl) ⟨Nat.le_of_ble_eq_true rfl, Nat.le_of_ble_eq_true rfl⟩ ⟨Nat.zero_le _, Nat.zero_le _⟩ dX7_told_178 ?_
      exact z_retSi C hr hlocks rfl (by simp only [if_neg q_1_0, if_neg q_1_1, if_neg q_1_2, if_neg q_1_3, if_neg q_1_4, if_neg q_1_5, if_neg q_1_6, if_neg q_1_7, if_neg q_1_8, if_neg b_137, if_pos b_161]) dX7_told_181
    · rw [show (if 10 ≤ wh ∧ wh ≤ 49 then (1 : Int) else 0) = 0 from if_neg b_161]
      refine z_ifT_eq C 182 dX7_told_164 (by decide) ⟨by decide, by decide⟩ (by decide) ?_
      refine z_bipush C (by decide +kernel) dX7_told_182 ?_
      exact z_retSi C hr hlocks rfl (by simp only [if_neg q_1_0, if_neg q_1_1, if_neg q_1_2, if_neg q_1_3, if_neg q_1_4, if_neg q_1_5, if_neg q_1_6, if_neg q_1_7, if_neg q_1_8, if_neg b_137, if_neg b_161]) dX7_told_184

def mSortF (tog al i : Int) : Int := if mSec (mHard i) tog < mSec (mHard i / 2) al then 2 ^ i.toNat else 0
theorem mSortF_b (tog al i : Int) (_ : 0 ≤ i) : mSortF tog al i = 0 ∨ mSortF tog al i = 2 ^ i.toNat := by
  unfold mSortF
  split
  · exact Or.inr rfl
  · exact Or.inl rfl
def mSorts (tog al : Int) : Int := mSum (mSortF tog al) 5
theorem mMax7_b {f : Int → Int} {A : Int} (h : ∀ b : Int, 4 ≤ b → b ≤ 10 → 0 ≤ f b ∧ f b ≤ A) : 0 ≤ mMax7 f ∧ mMax7 f ≤ A := by
  have h4 := h 4 (by omega) (by omega)
  have h5 := h 5 (by omega) (by omega)
  have h6 := h 6 (by omega) (by omega)
  have h7 := h 7 (by omega) (by omega)
  have h8 := h 8 (by omega) (by omega)
  have h9 := h 9 (by omega) (by omega)
  have h10 := h 10 (by omega) (by omega)
  unfold mMax7
  omega
set_option maxRecDepth 20000 in
set_option maxHeartbeats 4000000 in
theorem c_X7_sorts {l : Launch} {D : va_G} {Y : Nat → ClassId} {a : Int → Nat} (hI : zI a) (σ : zS) (ef : Int) (r1 : R3 ef) (hth : ∀ r : Int, 0 ≤ r → r ≤ 3 → σ (40 + r) 0 = 0 ∨ σ (40 + r) 0 = 1) (hse : (0 ≤ σ 32 7 ∧ σ 32 7 ≤ 3) ∧ (0 ≤ σ 32 8 ∧ σ 32 8 ≤ 3)) (hrd : ∀ r : Int, 0 ≤ r → r ≤ 3 → (0 ≤ σ (40 + r) 1 ∧ σ (40 + r) 1 ≤ 20) ∧ (0 ≤ σ (40 + r) 2 ∧ σ (40 + r) 2 ≤ 10) ∧ (0 ≤ σ (40 + r) 3 ∧ σ (40 + r) 3 ≤ 9) ∧ (0 ≤ σ (40 + r) 4 ∧ σ (40 + r) 4 ≤ 50)) : zMet l yX7_sorts cX7_sorts 7 (some .int) 3 (zPc D Y a σ [.ref (a 0), .int (iI ef)]) (zSi (if σ (40 + σ 32 7) 0 = 1 ∧ σ (40 + σ 32 8) 0 = 1 then (if 0 ≤ ef ∧ ef ≤ 4 then mSorts (mMax7 (fun b => mTread (σ (40 + σ 32 7) 1) (σ (40 + σ 32 7) 2) ef b + mTread (σ (40 + σ 32 8) 1) (σ (40 + σ 32 8) 2) ef b)) (max (ef * σ (40 + σ 32 7) 1) (ef * σ (40 + σ 32 8) 1)) else -2) else -3)) zNo := by
  refine z_start rfl (Nat.le_of_ble_eq_true rfl) hI ?_
  intro p e s m below meth c ls C hr hlocks hl hP
  have hl : lv_has ls 7 [(0, .ref (a 0)), (1, .int (iI ef))] := hl
  have hrf := hrd (σ 32 7) (by omega) (by omega)
  have hrb := hrd (σ 32 8) (by omega) (by omega)
  refine z_aload_n C hl 0 rfl dX7_sorts_0 ?_
  refine z_vSi C hP (As := []) lk_X7_122 (c_X7_areSeated hI σ  hth hse) ob_0 rfl rfl rfl hl.1 rfl (Nat.le_of_ble_eq_true rfl) ⟨Nat.le_of_ble_eq_true rfl, Nat.le_of_ble_eq_true rfl⟩ ⟨Nat.zero_le _, Nat.zero_le _⟩ dX7_sorts_1 ?_
  by_cases b_1 : σ (40 + σ 32 7) 0 = 1 ∧ σ (40 + σ 32 8) 0 = 1
  · rw [show (if σ (40 + σ 32 7) 0 = 1 ∧ σ (40 + σ 32 8) 0 = 1 then (1 : Int) else 0) = 1 from if_pos b_1]
    refine z_ifT_ne C 10 dX7_sorts_4 (by decide) ⟨by decide, by decide⟩ (by decide) ?_
    refine z_iload_n C hl 1 rfl dX7_sorts_10 ?_
    refine z_sSi C hP (As := [.int (iI ef)]) lk_X7_115 (c_X7_isEffort hI σ ef r1) rfl hl.1 rfl (Nat.le_of_ble_eq_true rfl) ⟨Nat.le_of_ble_eq_true rfl, Nat.le_of_ble_eq_true rfl⟩ ⟨Nat.zero_le _, Nat.zero_le _⟩ dX7_sorts_11 ?_
    by_cases b_11 : 0 ≤ ef ∧ ef ≤ 4
    · rw [show (if 0 ≤ ef ∧ ef ≤ 4 then (1 : Int) else 0) = 1 from if_pos b_11]
      refine z_ifT_ne C 20 dX7_sorts_14 (by decide) ⟨by decide, by decide⟩ (by decide) ?_
      refine z_aload_n C hl 0 rfl dX7_sorts_20 ?_
      refine zg_X7_12 C hP dX7_sorts_21 ?_
      refine z_vSr C hP (As := []) lk_X7_171 (c_X6_riderInFront hI σ  (by omega)) (ob_set (by unfold zSet; omega)) rfl rfl rfl hl.1 rfl (Nat.le_of_ble_eq_true rfl) ⟨Nat.le_of_ble_eq_true rfl, Nat.le_of_ble_eq_true rfl⟩ ⟨Nat.zero_le _, Nat.zero_le _⟩ dX7_sorts_24 ?_
      refine z_iload_n C hl 1 rfl dX7_sorts_27 ?_
      refine z_aload_n C hl 0 rfl dX7_sorts_28 ?_
      refine zg_X7_12 C hP dX7_sorts_29 ?_
      refine z_vSr C hP (As := []) lk_X7_175 (c_X6_riderInBack hI σ  (by omega)) (ob_set (by unfold zSet; omega)) rfl rfl rfl hl.1 rfl (Nat.le_of_ble_eq_true rfl) ⟨Nat.le_of_ble_eq_true rfl, Nat.le_of_ble_eq_true rfl⟩ ⟨Nat.zero_le _, Nat.zero_le _⟩ dX7_sorts_32 ?_
      refine z_iload_n C hl 1 rfl dX7_sorts_35 ?_
      refine z_sSi C hP (As := [.ref (a (40 + σ 32 7)), .int (iI ef), .ref (a (40 + σ 32 8)), .int (iI ef)]) lk_X7_202 (c_X7_mostTreads hI σ (40 + σ 32 7) ef (40 + σ 32 8) ef (by unfold zRid; omega) hrf.1 hrf.2.1 b_11 (by unfold zRid; omega) hrb.1 hrb.2.1 b_11) rfl hl.1 rfl (Nat.le_of_ble_eq_true rfl) ⟨Nat.le_of_ble_eq_true rfl, Nat.le_of_ble_eq_true rfl⟩ ⟨Nat.zero_le _, Nat.zero_le _⟩ dX7_sorts_36 ?_
      have htog := mMax7_b (f := fun b => mTread (σ (40 + σ 32 7) 1) (σ (40 + σ 32 7) 2) ef b + mTread (σ (40 + σ 32 8) 1) (σ (40 + σ 32 8) 2) ef b) (A := 160) (fun b h1 h2 => by have q1 := mTread_b hrf.1 hrf.2.1 b_11 ⟨h1, h2⟩; have q2 := mTread_b hrb.1 hrb.2.1 b_11 ⟨h1, h2⟩; omega)
      refine z_topi (fun x1 hx1 => ?_)
      refine z_istore_n C [1, 2, 0] [(0, .ref (a 0)), (1, .int (iI ef)), (2, .int (iI x1))] hl (by decide) rfl dX7_sorts_39 (fun ls hl => ?_)
      refine z_aload_n C hl 0 rfl dX7_sorts_40 ?_
      refine zg_X7_12 C hP dX7_sorts_41 ?_
      refine z_vSr C hP (As := []) lk_X7_171 (c_X6_riderInFront hI σ  (by omega)) (ob_set (by unfold zSet; omega)) rfl rfl rfl hl.1 rfl (Nat.le_of_ble_eq_true rfl) ⟨Nat.le_of_ble_eq_true rfl, Nat.le_of_ble_eq_true rfl⟩ ⟨Nat.zero_le _, Nat.zero_le _⟩ dX7_sorts_44 ?_
      refine z_iload_n C hl 1 rfl dX7_sorts_47 ?_
      refine z_vSi C hP (As := [.int (iI ef)]) lk_X7_195 (c_X4_treadsAsLiked hI σ (40 + σ 32 7) ef (by unfold zRid; omega)) (ob_rid (by unfold zRid; omega)) rfl rfl rfl hl.1 rfl (Nat.le_of_ble_eq_true rfl) ⟨Nat.le_of_ble_eq_true rfl, Nat.le_of_ble_eq_true rfl⟩ ⟨Nat.zero_le _, Nat.zero_le _⟩ dX7_sorts_48 ?_
      refine z_aload_n C hl 0 rfl dX7_sorts_51 ?_
      refine zg_X7_12 C hP dX7_sorts_52 ?_
      refine z_vSr C hP (As := []) lk_X7_175 (c_X6_riderInBack hI σ  (by omega)) (ob_set (by unfold zSet; omega)) rfl rfl rfl hl.1 rfl (Nat.le_of_ble_eq_true rfl) ⟨Nat.le_of_ble_eq_true rfl, Nat.le_of_ble_eq_true rfl⟩ ⟨Nat.zero_le _, Nat.zero_le _⟩ dX7_sorts_55 ?_
      refine z_iload_n C hl 1 rfl dX7_sorts_58 ?_
      refine z_vSi C hP (As := [.int (iI ef)]) lk_X7_195 (c_X4_treadsAsLiked hI σ (40 + σ 32 8) ef (by unfold zRid; omega)) (ob_rid (by unfold zRid; omega)) rfl rfl rfl hl.1 rfl (Nat.le_of_ble_eq_true rfl) ⟨Nat.le_of_ble_eq_true rfl, Nat.le_of_ble_eq_true rfl⟩ ⟨Nat.zero_le _, Nat.zero_le _⟩ dX7_sorts_59 ?_
      have hm1 := mulb b_11 hrf.1
      have hm2 := mulb b_11 hrb.1
      refine z_max C ⟨by omega, by omega⟩ ⟨by omega, by omega⟩ wd_511 hl.1 ⟨(Nat.le_of_ble_eq_true rfl), (Nat.le_of_ble_eq_true rfl)⟩ ⟨Nat.zero_le _, Nat.zero_le _⟩ dX7_sorts_62 ?_
      refine z_topi (fun x2 hx2 => ?_)
      refine z_istore_n C [1, 2, 3, 0] [(0, .ref (a 0)), (1, .int (iI ef)), (2, .int (iI x1)), (3, .int (iI x2))] hl (by decide) rfl dX7_sorts_65 (fun ls hl => ?_)
      refine z_iconst C dX7_sorts_66 ?_
      refine z_istore C [1, 2, 3, 4, 0] [(0, .ref (a 0)), (1, .int (iI ef)), (2, .int (iI x1)), (3, .int (iI x2)), (4, .int (iI 0))] hl (by decide) rfl dX7_sorts_67 (fun ls hl => ?_)
      refine z_iconst C dX7_sorts_69 ?_
      refine z_istore C [1, 2, 3, 4, 5, 0] [(0, .ref (a 0)), (1, .int (iI ef)), (2, .int (iI x1)), (3, .int (iI x2)), (4, .int (iI 0)), (5, .int (iI 0))] hl (by decide) rfl dX7_sorts_70 (fun ls hl => ?_)
      have L_72 : ∀ (n : Nat) (bits : Int) (i : Int) (ls : Array Slot), (0 ≤ i ∧ i ≤ 5) → (bits = mSum (mSortF (mMax7 (fun b => mTread (σ (40 + σ 32 7) 1) (σ (40 + σ 32 7) 2) ef b + mTread (σ (40 + σ 32 8) 1) (σ (40 + σ 32 8) 2) ef b)) (max (ef * σ (40 + σ 32 7) 1) (ef * σ (40 + σ 32 8) 1))) i.toNat) → ((5 - i).toNat) < n → lv_has ls 7 [(0, .ref (a 0)), (1, .int (iI ef)), (2, .int (iI x1)), (3, .int (iI x2)), (4, .int (iI bits)), (5, .int (iI i))] → W p l e (zR 3) s m ([.ref (a 0), .int (iI ef)] : List Value).toArray below meth c s.heap [] 0 0 (MQ below (zSi (if σ (40 + σ 32 7) 0 = 1 ∧ σ (40 + σ 32 8) 0 = 1 then (if 0 ≤ ef ∧ ef ≤ 4 then mSorts (mMax7 (fun b => mTread (σ (40 + σ 32 7) 1) (σ (40 + σ 32 7) 2) ef b + mTread (σ (40 + σ 32 8) 1) (σ (40 + σ 32 8) 2) ef b)) (max (ef * σ (40 + σ 32 7) 1) (ef * σ (40 + σ 32 8) 1)) else -2) else -3)) ([.ref (a 0), .int (iI ef)] : List Value).toArray s 0 0 zNo) (F0 m 72 ls []) := by
        intro n
        induction n with
        | zero =>
          intros; omega
        | succ n ih_72 =>
          intro bits i ls ii iv hm hl
          have hbs := mBS_b (mSortF_b (mMax7 (fun b => mTread (σ (40 + σ 32 7) 1) (σ (40 + σ 32 7) 2) ef b + mTread (σ (40 + σ 32 8) 1) (σ (40 + σ 32 8) 2) ef b)) (max (ef * σ (40 + σ 32 7) 1) (ef * σ (40 + σ 32 8) 1))) i.toNat
          rw [← iv] at hbs
          have htl := two_le 0 i.toNat (by omega)
          refine z_iload C hl 5 rfl dX7_sorts_72 ?_
          refine z_iconst C dX7_sorts_74 ?_
          refine z_icmp_ge C 117 dX7_sorts_75 (by decide) ⟨by omega, by omega⟩ ⟨by omega, by omega⟩ (fun c_75 => ?_) (fun c_75 => ?_)
          · refine z_iload C hl 4 rfl dX7_sorts_117 ?_
            exact z_retSi C hr hlocks rfl (by first | (rw [if_neg b_1]; done) | (rw [if_pos b_1, if_neg (by omega)]; done) | (rw [if_pos b_1, if_pos (by omega), iv, show i = 5 from (by omega)]; rfl)) dX7_sorts_119
          · have hhi := mHard_b i
            have hq1 := mSec_b (h := mHard i) (t := (mMax7 (fun b => mTread (σ (40 + σ 32 7) 1) (σ (40 + σ 32 7) 2) ef b + mTread (σ (40 + σ 32 8) 1) (σ (40 + σ 32 8) 2) ef b))) (by omega)
            have hq2 := mSec_b (h := mHard i / 2) (t := (max (ef * σ (40 + σ 32 7) 1) (ef * σ (40 + σ 32 8) 1))) (by omega)
            refine z_iload C hl 5 rfl dX7_sorts_78 ?_
            refine z_sSi C hP (As := [.int (iI i)]) lk_X7_211 (c_X0_hardOf hI σ i (by omega)) rfl hl.1 rfl (Nat.le_of_ble_eq_true rfl) ⟨Nat.le_of_ble_eq_true rfl, Nat.le_of_ble_eq_true rfl⟩ ⟨Nat.zero_le _, Nat.zero_le _⟩ dX7_sorts_80 ?_
            refine z_topi (fun x3 hx3 => ?_)
            refine z_istore C [1, 2, 3, 4, 5, 6, 0] [(0, .ref (a 0)), (1, .int (iI ef)), (2, .int (iI x1)), (3, .int (iI x2)), (4, .int (iI bits)), (5, .int (iI i)), (6, .int (iI x3))] hl (by decide) rfl dX7_sorts_83 (fun ls hl => ?_)
            simp only [hx1, hx2, hx3] at hq1 hq2
            refine z_iload C hl 6 rfl dX7_sorts_85 ?_
            refine z_iload_n C hl 2 rfl dX7_sorts_87 ?_
            refine z_sSi C hP (As := [.int (iI x3), .int (iI x1)]) lk_X7_216 (c_X0_secondsOf hI σ x3 x1 (by omega) (by omega)) rfl hl.1 rfl (Nat.le_of_ble_eq_true rfl) ⟨Nat.le_of_ble_eq_true rfl, Nat.le_of_ble_eq_true rfl⟩ ⟨Nat.zero_le _, Nat.zero_le _⟩ dX7_sorts_88 ?_
            refine z_iload C hl 6 rfl dX7_sorts_91 ?_
            refine z_iconst C dX7_sorts_93 ?_
            refine z_idiv C ⟨by omega, by omega, by omega, by omega⟩ dX7_sorts_94 ?_
            refine z_iload_n C hl 3 rfl dX7_sorts_95 ?_
            refine z_sSi C hP (As := [.int (iI (x3 / 2)), .int (iI x2)]) lk_X7_216 (c_X0_secondsOf hI σ (x3 / 2) x2 (by omega) (by omega)) rfl hl.1 rfl (Nat.le_of_ble_eq_true rfl) ⟨Nat.le_of_ble_eq_true rfl, Nat.le_of_ble_eq_true rfl⟩ ⟨Nat.zero_le _, Nat.zero_le _⟩ dX7_sorts_96 ?_
            refine z_icmp_ge C 111 dX7_sorts_99 (by decide) ⟨by omega, by omega⟩ ⟨by omega, by omega⟩ (fun c_99 => ?_) (fun c_99 => ?_)
            · refine z_iinc C 5 [1, 2, 3, 4, 5, 0, 6] [(0, .ref (a 0)), (1, .int (iI ef)), (2, .int (iI x1)), (3, .int (iI x2)), (4, .int (iI bits)), (5, .int (iI (i + 1))), (6, .int (iI x3))] hl rfl (by decide) rfl dX7_sorts_111 (fun ls hl => ?_)
              refine z_goto C 72 dX7_sorts_114 (by decide) ?_
              exact ih_72 bits (i + 1) ls (by omega) (by rw [mSum_s _ (by omega), ← iv]; unfold mSortF; first | (rw [if_pos (by subst_vars; omega)]; omega) | (rw [if_neg (by subst_vars; omega)]; omega)) (by omega) (lv_sub hl [0, 1, 2, 3, 4, 5] rfl)
            · refine z_iload C hl 4 rfl dX7_sorts_102 ?_
              refine z_iconst C dX7_sorts_104 ?_
              refine z_iload C hl 5 rfl dX7_sorts_105 ?_
              refine z_ishl C (2 ^ i.toNat) (z_shl1 ⟨by omega, by omega⟩) dX7_sorts_107 ?_
              refine z_ior C (bits + 2 ^ i.toNat) (z_orhi ⟨by omega, by omega⟩ hbs) dX7_sorts_108 ?_
              refine z_topi (fun x4 hx4 => ?_)
              refine z_istore C [1, 2, 3, 4, 0, 5, 6] [(0, .ref (a 0)), (1, .int (iI ef)), (2, .int (iI x1)), (3, .int (iI x2)), (4, .int (iI x4)), (5, .int (iI i)), (6, .int (iI x3))] hl (by decide) rfl dX7_sorts_109 (fun ls hl => ?_)
              refine z_iinc C 5 [1, 2, 3, 4, 5, 0, 6] [(0, .ref (a 0)), (1, .int (iI ef)), (2, .int (iI x1)), (3, .int (iI x2)), (4, .int (iI x4)), (5, .int (iI (i + 1))), (6, .int (iI x3))] hl rfl (by decide) rfl dX7_sorts_111 (fun ls hl => ?_)
              refine z_goto C 72 dX7_sorts_114 (by decide) ?_
              exact ih_72 x4 (i + 1) ls (by omega) (by rw [mSum_s _ (by omega), ← iv]; unfold mSortF; first | (rw [if_pos (by subst_vars; omega)]; omega) | (rw [if_neg (by subst_vars; omega)]; omega)) (by omega) (lv_sub hl [0, 1, 2, 3, 4, 5] rfl)
      exact L_72 _ 0 0 ls (by omega) (by rfl) (Nat.lt_succ_self _) (lv_sub hl [0, 1, 2, 3, 4, 5] rfl)
    · rw [show (if 0 ≤ ef ∧ ef ≤ 4 then (1 : Int) else 0) = 0 from if_neg b_11]
      refine z_ifF_ne C 20 dX7_sorts_14 (by decide) ⟨by decide, by decide⟩ (by decide) ?_
      refine z_bipush C (by decide +kernel) dX7_sorts_17 ?_
      exact z_retSi C hr hlocks rfl (by first | (rw [if_neg b_1]; done) | (rw [if_pos b_1, if_neg (by omega)]; done) | (rw [if_pos b_1, if_pos (by omega), iv, show i = 5 from (by omega)]; rfl)) dX7_sorts_19
  · rw [show (if σ (40 + σ 32 7) 0 = 1 ∧ σ (40 + σ 32 8) 0 = 1 then (1 : Int) else 0) = 0 from if_neg b_1]
    refine z_ifF_ne C 10 dX7_sorts_4 (by decide) ⟨by decide, by decide⟩ (by decide) ?_
    refine z_bipush C (by decide +kernel) dX7_sorts_7 ?_
    exact z_retSi C hr hlocks rfl (by first | (rw [if_neg b_1]; done) | (rw [if_pos b_1, if_neg (by omega)]; done) | (rw [if_pos b_1, if_pos (by omega), iv, show i = 5 from (by omega)]; rfl)) dX7_sorts_9

def mPow (b : Int) (n : Nat) : Int := b ^ n
set_option maxRecDepth 20000 in
set_option maxHeartbeats 4000000 in
theorem c_X7_power {l : Launch} {D : va_G} {Y : Nat → ClassId} {a : Int → Nat} (hI : zI a) (σ : zS) (b n0 : Int) (hn0 : 0 ≤ n0 ∧ n0 ≤ 100) : zMet l yX7_power cX7_power 6 (some .long) 0 (zPc D Y a σ [.long (jI b), .int (iI n0)]) (zSl (b ^ n0.toNat)) zNo := by
  refine z_start rfl (Nat.le_of_ble_eq_true rfl) hI ?_
  intro p e s m below meth c ls C hr hlocks hl hP
  have hl : lv_has ls 6 [(0, .long (jI b)), (2, .int (iI n0))] := hl
  refine z_lconst C (z := 1) rfl dX7_power_0 ?_
  refine z_lstore_n C [1, 2, 0] [(0, .long (jI b)), (2, .int (iI n0)), (3, .long (jI 1))] hl (by decide) rfl dX7_power_1 (fun ls hl => ?_)
  refine z_iconst C dX7_power_2 ?_
  refine z_istore C [1, 2, 3, 0] [(0, .long (jI b)), (2, .int (iI n0)), (3, .long (jI 1)), (5, .int (iI 0))] hl (by decide) rfl dX7_power_3 (fun ls hl => ?_)
  have L_5 : ∀ (n : Nat) (pw : Int) (i : Int) (ls : Array Slot), (0 ≤ i ∧ i ≤ n0) → (pw = b ^ i.toNat) → ((n0 - i).toNat) < n → lv_has ls 6 [(0, .long (jI b)), (2, .int (iI n0)), (3, .long (jI pw)), (5, .int (iI i))] → W p l e (zR 0) s m ([.long (jI b), .int (iI n0)] : List Value).toArray below meth c s.heap [] 0 0 (MQ below (zSl (b ^ n0.toNat)) ([.long (jI b), .int (iI n0)] : List Value).toArray s 0 0 zNo) (F0 m 5 ls []) := by
    intro n
    induction n with
    | zero =>
      intros; omega
    | succ n ih_5 =>
      intro pw i ls ii iv hm hl
      refine z_iload C hl 3 rfl dX7_power_5 ?_
      refine z_iload_n C hl 1 rfl dX7_power_7 ?_
      refine z_icmp_ge C 21 dX7_power_8 (by decide) ⟨by omega, by omega⟩ ⟨by omega, by omega⟩ (fun c_8 => ?_) (fun c_8 => ?_)
      · refine z_lload_n C hl 2 rfl dX7_power_21 ?_
        exact z_retSl C hr hlocks (by rw [iv, show i = n0 from (by omega)]) dX7_power_22
      · refine z_lload_n C hl 2 rfl dX7_power_11 ?_
        refine z_lload_n C hl 0 rfl dX7_power_12 ?_
        refine z_lmul C dX7_power_13 ?_
        refine z_topl (fun x1 hx1 => ?_)
        refine z_lstore_n C [1, 2, 0, 3] [(0, .long (jI b)), (2, .int (iI n0)), (3, .long (jI x1)), (5, .int (iI i))] hl (by decide) rfl dX7_power_14 (fun ls hl => ?_)
        refine z_iinc C 3 [1, 2, 3, 0] [(0, .long (jI b)), (2, .int (iI n0)), (3, .long (jI x1)), (5, .int (iI (i + 1)))] hl rfl (by decide) rfl dX7_power_15 (fun ls hl => ?_)
        refine z_goto C 5 dX7_power_18 (by decide) ?_
        exact ih_5 x1 (i + 1) ls (by omega) (by subst_vars; rw [show (i + 1).toNat = i.toNat + 1 from (by omega), Int.pow_succ]) (by omega) (lv_sub hl [0, 1, 2, 3] rfl)
  exact L_5 _ 1 0 ls (by omega) (by simp) (Nat.lt_succ_self _) (lv_sub hl [0, 1, 2, 3] rfl)
