set_option maxRecDepth 20000 in
set_option maxHeartbeats 4000000 in
theorem c_X7_image_o {l : Launch} {D : va_G} {Y : Nat → ClassId} {a : Int → Nat} (hI : zI a) (σ : zS) (n0 : Int) (r1 : R3 n0) (ro : ¬ (0 ≤ n0 ∧ n0 ≤ 1)) : zMet l yX7_image cX7_image 2 (some .int) 2 (zPc D Y a σ [.ref (a 0), .int (iI n0)]) (zQi D Y a (fun r τ => r = -2 ∧ τ = σ)) (inA a) := by
  refine z_start rfl (Nat.le_of_ble_eq_true rfl) hI ?_
  intro p e s m below meth c ls C hr hlocks hl hP
  have hS : va_S (inA a) s.heap s.heap [] := va_S.rf
  have hl : lv_has ls 2 [(0, .ref (a 0)), (1, .int (iI n0))] := hl
  skip
  refine z_iload_n C hl 1 rfl dX7_image_0 ?_
  refine z_iconst C dX7_image_1 ?_
  refine z_iconst C dX7_image_2 ?_
  refine z_sSi C hP (As := [.int (iI n0), .int (iI 0), .int (iI 1)]) lk_X7_52 (c_X7_isWithin hI σ n0 0 1 r1 ⟨by decide, by decide⟩ ⟨by decide, by decide⟩) rfl hl.1 rfl (Nat.le_of_ble_eq_true rfl) ⟨Nat.le_of_ble_eq_true rfl, Nat.le_of_ble_eq_true rfl⟩ ⟨Nat.zero_le _, Nat.zero_le _⟩ dX7_image_3 ?_
  by_cases b_3 : 0 ≤ n0 ∧ n0 ≤ 1
  · rw [show (if 0 ≤ n0 ∧ n0 ≤ 1 then (1 : Int) else 0) = 1 from if_pos b_3]
    refine z_ifT_ne C 12 dX7_image_6 (by decide) ⟨by decide, by decide⟩ (by decide) ?_
    exact absurd b_3 ro
  · rw [show (if 0 ≤ n0 ∧ n0 ≤ 1 then (1 : Int) else 0) = 0 from if_neg b_3]
    refine z_ifF_ne C 12 dX7_image_6 (by decide) ⟨by decide, by decide⟩ (by decide) ?_
    refine z_bipush C (by decide +kernel) dX7_image_9 ?_
    exact z_retQi C hP hS hr hlocks rfl (by exact ⟨rfl, rfl⟩) dX7_image_11

set_option maxRecDepth 20000 in
set_option maxHeartbeats 4000000 in
theorem c_X7_restore_o {l : Launch} {D : va_G} {Y : Nat → ClassId} {a : Int → Nat} (hI : zI a) (σ : zS) (n0 : Int) (r1 : R3 n0) (ro : ¬ (0 ≤ n0 ∧ n0 ≤ 1)) : zMet l yX7_restore cX7_restore 2 (some .int) 2 (zPc D Y a σ [.ref (a 0), .int (iI n0)]) (zQi D Y a (fun r τ => r = -2 ∧ τ = σ)) (inA a) := by
  refine z_start rfl (Nat.le_of_ble_eq_true rfl) hI ?_
  intro p e s m below meth c ls C hr hlocks hl hP
  have hS : va_S (inA a) s.heap s.heap [] := va_S.rf
  have hl : lv_has ls 2 [(0, .ref (a 0)), (1, .int (iI n0))] := hl
  skip
  refine z_iload_n C hl 1 rfl dX7_restore_0 ?_
  refine z_iconst C dX7_restore_1 ?_
  refine z_iconst C dX7_restore_2 ?_
  refine z_sSi C hP (As := [.int (iI n0), .int (iI 0), .int (iI 1)]) lk_X7_52 (c_X7_isWithin hI σ n0 0 1 r1 ⟨by decide, by decide⟩ ⟨by decide, by decide⟩) rfl hl.1 rfl (Nat.le_of_ble_eq_true rfl) ⟨Nat.le_of_ble_eq_true rfl, Nat.le_of_ble_eq_true rfl⟩ ⟨Nat.zero_le _, Nat.zero_le _⟩ dX7_restore_3 ?_
  by_cases b_3 : 0 ≤ n0 ∧ n0 ≤ 1
  · rw [show (if 0 ≤ n0 ∧ n0 ≤ 1 then (1 : Int) else 0) = 1 from if_pos b_3]
    refine z_ifT_ne C 12 dX7_restore_6 (by decide) ⟨by decide, by decide⟩ (by decide) ?_
    exact absurd b_3 ro
  · rw [show (if 0 ≤ n0 ∧ n0 ≤ 1 then (1 : Int) else 0) = 0 from if_neg b_3]
    refine z_ifF_ne C 12 dX7_restore_6 (by decide) ⟨by decide, by decide⟩ (by decide) ?_
    refine z_bipush C (by decide +kernel) dX7_restore_9 ?_
    exact z_retQi C hP hS hr hlocks rfl (by exact ⟨rfl, rfl⟩) dX7_restore_11

theorem mYx_b {seed : Int} (h : 0 ≤ seed ∧ seed ≤ 9999) : ∀ n : Nat, 0 ≤ mYx seed n ∧ mYx seed n ≤ 65536
  | 0 => by show 0 ≤ seed ∧ seed ≤ 65536; omega
  | n + 1 => by
    have := mYx_b h n
    show 0 ≤ (75 * mYx seed n + 74) % 65537 ∧ (75 * mYx seed n + 74) % 65537 ≤ 65536
    omega
def mChN : Nat → Nat → Nat
  | _, 0 => 1
  | 0, _ + 1 => 0
  | n + 1, k + 1 => mChN n k + mChN n (k + 1)
theorem mChN_s : ∀ n, n < 13 → ∀ k, k < 13 → k ≤ n → mChN n k * (n - k) / (k + 1) = mChN n (k + 1) ∧ mChN n k ≤ 924 := by decide +kernel
def mChF (n t s : Int) : Int := (mChN n.toNat s.toNat : Int) * t ^ s.toNat * (10 - t) ^ (n - s).toNat
theorem mPow_b {t : Int} (h : 0 ≤ t ∧ t ≤ 10) : ∀ k : Nat, 0 ≤ t ^ k ∧ t ^ k ≤ 10 ^ k
  | 0 => by simp
  | k + 1 => by
    have := mPow_b h k
    rw [Int.pow_succ, Int.pow_succ]
    exact mulb this h
theorem mP10 : ∀ n, n < 13 → (1 : Int) ≤ 10 ^ n ∧ (10 : Int) ^ n ≤ 1000000000000 := by decide +kernel
theorem mChF_b {n t s : Int} (hn : 0 ≤ n ∧ n ≤ 12) (ht : 0 ≤ t ∧ t ≤ 10) (hs : 0 ≤ s ∧ s ≤ n) : 0 ≤ mChF n t s ∧ mChF n t s ≤ 924000000000000 := by
  have h1 := mPow_b ht s.toNat
  have h2 := mPow_b (t := 10 - t) (by omega) (n - s).toNat
  have hc := (mChN_s n.toNat (by omega) s.toNat (by omega) (by omega)).2
  have h3 := mulb h1 h2
  rw [← Int.pow_add, show s.toNat + (n - s).toNat = n.toNat by omega] at h3
  have hp := mP10 n.toNat (by omega)
  have h4 := mulb (x := (mChN n.toNat s.toNat : Int)) (A := 924) (y := t ^ s.toNat * (10 - t) ^ (n - s).toNat) (B := 1000000000000) (by omega) (by omega)
  unfold mChF
  rw [Int.mul_assoc]
  omega
theorem mChS_b {n t m : Int} (hn : 0 ≤ n ∧ n ≤ 12) (ht : 0 ≤ t ∧ t ≤ 10) (hm : m ≤ n + 1) : 0 ≤ mSum (mChF n t) m.toNat ∧ mSum (mChF n t) m.toNat ≤ 13000000000000000 := by
  have h := mSum_b (f := mChF n t) (A := 924000000000000) (n := m.toNat) (fun i h1 h2 => mChF_b hn ht (by omega))
  omega

set_option maxRecDepth 20000 in
set_option maxHeartbeats 4000000 in
theorem c_X7_year {l : Launch} {D : va_G} {Y : Nat → ClassId} {a : Int → Nat} (hI : zI a) (σ : zS) (seed n0 wh : Int) (r1 : R3 seed) (r2 : R3 n0) (r3 : R3 wh) (hth : ∀ r : Int, 0 ≤ r → r ≤ 3 → σ (40 + r) 0 = 0 ∨ σ (40 + r) 0 = 1) (hse : (0 ≤ σ 32 7 ∧ σ 32 7 ≤ 3) ∧ (0 ≤ σ 32 8 ∧ σ 32 8 ≤ 3)) (hrd : ∀ r : Int, 0 ≤ r → r ≤ 3 → (0 ≤ σ (40 + r) 1 ∧ σ (40 + r) 1 ≤ 20) ∧ (0 ≤ σ (40 + r) 2 ∧ σ (40 + r) 2 ≤ 10) ∧ (0 ≤ σ (40 + r) 3 ∧ σ (40 + r) 3 ≤ 9) ∧ (0 ≤ σ (40 + r) 4 ∧ σ (40 + r) 4 ≤ 50)) (hn : 1 ≤ σ 32 12 ∧ σ 32 12 ≤ 24) (hg : ∀ i : Int, 0 ≤ i → i < 24 → -1 ≤ σ 35 i ∧ σ 35 i ≤ 6) : zMet l yX7_year cX7_year 11 (some .int) 5 (zPc D Y a σ [.ref (a 0), .int (iI seed), .int (iI n0), .int (iI wh)]) (zSi (if σ (40 + σ 32 7) 0 = 1 ∧ σ (40 + σ 32 8) 0 = 1 then (if (0 ≤ seed ∧ seed ≤ 9999) ∧ (1 ≤ n0 ∧ n0 ≤ 99) ∧ 0 ≤ wh ∧ wh ≤ 2 then (if wh = 0 then mSum (mYv σ seed) n0.toNat else if wh = 1 then mMnS 1000000000 (mYv σ seed) n0.toNat else mMxS 0 (mYv σ seed) n0.toNat) else -2) else -3)) zNo := by
  refine z_start rfl (Nat.le_of_ble_eq_true rfl) hI ?_
  intro p e s m below meth c ls C hr hlocks hl hP
  have hl : lv_has ls 11 [(0, .ref (a 0)), (1, .int (iI seed)), (2, .int (iI n0)), (3, .int (iI wh))] := hl
  refine z_aload_n C hl 0 rfl dX7_year_0 ?_
  refine z_vSi C hP (As := []) lk_X7_122 (c_X7_areSeated hI σ  hth hse) ob_0 rfl rfl rfl hl.1 rfl (Nat.le_of_ble_eq_true rfl) ⟨Nat.le_of_ble_eq_true rfl, Nat.le_of_ble_eq_true rfl⟩ ⟨Nat.zero_le _, Nat.zero_le _⟩ dX7_year_1 ?_
  by_cases b_1 : σ (40 + σ 32 7) 0 = 1 ∧ σ (40 + σ 32 8) 0 = 1
  · rw [show (if σ (40 + σ 32 7) 0 = 1 ∧ σ (40 + σ 32 8) 0 = 1 then (1 : Int) else 0) = 1 from if_pos b_1]
    refine z_ifT_ne C 10 dX7_year_4 (by decide) ⟨by decide, by decide⟩ (by decide) ?_
    refine z_iload_n C hl 1 rfl dX7_year_10 ?_
    refine z_iconst C dX7_year_11 ?_
    refine z_sipush C (by decide +kernel) dX7_year_12 ?_
    refine z_sSi C hP (As := [.int (iI seed), .int (iI 0), .int (iI 9999)]) lk_X7_52 (c_X7_isWithin hI σ seed 0 9999 r1 ⟨by decide, by decide⟩ ⟨by decide, by decide⟩) rfl hl.1 rfl (Nat.le_of_ble_eq_true rfl) ⟨Nat.le_of_ble_eq_true rfl, Nat.le_of_ble_eq_true rfl⟩ ⟨Nat.zero_le _, Nat.zero_le _⟩ dX7_year_15 ?_
    by_cases b_15 : 0 ≤ seed ∧ seed ≤ 9999
    · rw [show (if 0 ≤ seed ∧ seed ≤ 9999 then (1 : Int) else 0) = 1 from if_pos b_15]
      refine z_ifF_eq C 40 dX7_year_18 (by decide) ⟨by decide, by decide⟩ (by decide) ?_
      refine z_iload_n C hl 2 rfl dX7_year_21 ?_
      refine z_iconst C dX7_year_22 ?_
      refine z_bipush C (by decide +kernel) dX7_year_23 ?_
      refine z_sSi C hP (As := [.int (iI n0), .int (iI 1), .int (iI 99)]) lk_X7_52 (c_X7_isWithin hI σ n0 1 99 r2 ⟨by decide, by decide⟩ ⟨by decide, by decide⟩) rfl hl.1 rfl (Nat.le_of_ble_eq_true rfl) ⟨Nat.le_of_ble_eq_true rfl, Nat.le_of_ble_eq_true rfl⟩ ⟨Nat.zero_le _, Nat.zero_le _⟩ dX7_year_25 ?_
      by_cases b_25 : 1 ≤ n0 ∧ n0 ≤ 99
      · rw [show (if 1 ≤ n0 ∧ n0 ≤ 99 then (1 : Int) else 0) = 1 from if_pos b_25]
        refine z_ifF_eq C 40 dX7_year_28 (by decide) ⟨by decide, by decide⟩ (by decide) ?_
        refine z_iload_n C hl 3 rfl dX7_year_31 ?_
        refine z_iconst C dX7_year_32 ?_
        refine z_iconst C dX7_year_33 ?_
        refine z_sSi C hP (As := [.int (iI wh), .int (iI 0), .int (iI 2)]) lk_X7_52 (c_X7_isWithin hI σ wh 0 2 r3 ⟨by decide, by decide⟩ ⟨by decide, by decide⟩) rfl hl.1 rfl (Nat.le_of_ble_eq_true rfl) ⟨Nat.le_of_ble_eq_true rfl, Nat.le_of_ble_eq_true rfl⟩ ⟨Nat.zero_le _, Nat.zero_le _⟩ dX7_year_34 ?_
        by_cases b_34 : 0 ≤ wh ∧ wh ≤ 2
        · rw [show (if 0 ≤ wh ∧ wh ≤ 2 then (1 : Int) else 0) = 1 from if_pos b_34]
          refine z_ifT_ne C 43 dX7_year_37 (by decide) ⟨by decide, by decide⟩ (by decide) ?_
          refine z_iload_n C hl 1 rfl dX7_year_43 ?_
          refine z_istore C [1, 2, 3, 4, 0] [(0, .ref (a 0)), (1, .int (iI seed)), (2, .int (iI n0)), (3, .int (iI wh)), (4, .int (iI seed))] hl (by decide) rfl dX7_year_44 (fun ls hl => ?_)
          refine z_iconst C dX7_year_46 ?_
          refine z_istore C [1, 2, 3, 4, 5, 0] [(0, .ref (a 0)), (1, .int (iI seed)), (2, .int (iI n0)), (3, .int (iI wh)), (4, .int (iI seed)), (5, .int (iI 0))] hl (by decide) rfl dX7_year_47 (fun ls hl => ?_)
          refine z_ldcw C (z := 1000000000) wd_655 (by decide +kernel) dX7_year_49 ?_
          refine z_istore C [1, 2, 3, 4, 5, 6, 0] [(0, .ref (a 0)), (1, .int (iI seed)), (2, .int (iI n0)), (3, .int (iI wh)), (4, .int (iI seed)), (5, .int (iI 0)), (6, .int (iI 1000000000))] hl (by decide) rfl dX7_year_52 (fun ls hl => ?_)
          refine z_iconst C dX7_year_54 ?_
          refine z_istore C [1, 2, 3, 4, 5, 6, 7, 0] [(0, .ref (a 0)), (1, .int (iI seed)), (2, .int (iI n0)), (3, .int (iI wh)), (4, .int (iI seed)), (5, .int (iI 0)), (6, .int (iI 1000000000)), (7, .int (iI 0))] hl (by decide) rfl dX7_year_55 (fun ls hl => ?_)
          refine z_iconst C dX7_year_57 ?_
          refine z_istore C [1, 2, 3, 4, 5, 6, 7, 8, 0] [(0, .ref (a 0)), (1, .int (iI seed)), (2, .int (iI n0)), (3, .int (iI wh)), (4, .int (iI seed)), (5, .int (iI 0)), (6, .int (iI 1000000000)), (7, .int (iI 0)), (8, .int (iI 0))] hl (by decide) rfl dX7_year_58 (fun ls hl => ?_)
          have L_60 : ∀ (n : Nat) (x : Int) (sm : Int) (ls0 : Int) (gr : Int) (i : Int) (ls : Array Slot), (0 ≤ i ∧ i ≤ n0) → (x = mYx seed i.toNat) → (sm = mSum (mYv σ seed) i.toNat) → (ls0 = mMnS 1000000000 (mYv σ seed) i.toNat) → (gr = mMxS 0 (mYv σ seed) i.toNat) → (0 ≤ sm ∧ sm ≤ 5784 * i) → (0 ≤ ls0 ∧ ls0 ≤ 1000000000) → (0 ≤ gr ∧ gr ≤ 5784) → ((n0 - i).toNat) < n → lv_has ls 11 [(0, .ref (a 0)), (1, .int (iI seed)), (2, .int (iI n0)), (3, .int (iI wh)), (4, .int (iI x)), (5, .int (iI sm)), (6, .int (iI ls0)), (7, .int (iI gr)), (8, .int (iI i))] → W p l e (zR 5) s m ([.ref (a 0), .int (iI seed), .int (iI n0), .int (iI wh)] : List Value).toArray below meth c s.heap [] 0 0 (MQ below (zSi (if σ (40 + σ 32 7) 0 = 1 ∧ σ (40 + σ 32 8) 0 = 1 then (if (0 ≤ seed ∧ seed ≤ 9999) ∧ (1 ≤ n0 ∧ n0 ≤ 99) ∧ 0 ≤ wh ∧ wh ≤ 2 then (if wh = 0 then mSum (mYv σ seed) n0.toNat else if wh = 1 then mMnS 1000000000 (mYv σ seed) n0.toNat else mMxS 0 (mYv σ seed) n0.toNat) else -2) else -3)) ([.ref (a 0), .int (iI seed), .int (iI n0), .int (iI wh)] : List Value).toArray s 0 0 zNo) (F0 m 60 ls []) := by
            intro n
            induction n with
            | zero =>
              intros; omega
            | succ n ih_60 =>
              intro x sm ls0 gr i ls ii ix i1 i2 i3 b1 b2 b3 hm hl
              have hxb := mYx_b b_15 i.toNat
              rw [← ix] at hxb
              refine z_iload C hl 8 rfl dX7_year_60 ?_
              refine z_iload_n C hl 2 rfl dX7_year_62 ?_
              refine z_icmp_ge C 138 dX7_year_63 (by decide) ⟨by omega, by omega⟩ ⟨by omega, by omega⟩ (fun c_63 => ?_) (fun c_63 => ?_)
              · refine z_iload_n C hl 3 rfl dX7_year_138 ?_
                refine z_if_ne C 145 dX7_year_139 (by decide) ⟨by omega, by omega⟩ (fun c_139 => ?_) (fun c_139 => ?_)
                · refine z_iload_n C hl 3 rfl dX7_year_145 ?_
                  refine z_iconst C dX7_year_146 ?_
                  refine z_icmp_ne C 155 dX7_year_147 (by decide) ⟨by omega, by omega⟩ ⟨by omega, by omega⟩ (fun c_147 => ?_) (fun c_147 => ?_)
                  · refine z_iload C hl 7 rfl dX7_year_155 ?_
                    exact z_retSi C hr hlocks rfl (by first | (rw [if_neg b_1]; done) | (rw [if_pos b_1, if_neg (by omega)]; done) | (rw [if_pos b_1, if_pos (by omega)]; rw [show i = n0 from (by omega)] at i1 i2 i3; first | (rw [if_pos (by omega)]; exact i1) | (rw [if_neg (by omega), if_pos (by omega)]; exact i2) | (rw [if_neg (by omega), if_neg (by omega)]; exact i3))) dX7_year_157
                  · refine z_iload C hl 6 rfl dX7_year_150 ?_
                    refine z_goto C 157 dX7_year_152 (by decide) ?_
                    exact z_retSi C hr hlocks rfl (by first | (rw [if_neg b_1]; done) | (rw [if_pos b_1, if_neg (by omega)]; done) | (rw [if_pos b_1, if_pos (by omega)]; rw [show i = n0 from (by omega)] at i1 i2 i3; first | (rw [if_pos (by omega)]; exact i1) | (rw [if_neg (by omega), if_pos (by omega)]; exact i2) | (rw [if_neg (by omega), if_neg (by omega)]; exact i3))) dX7_year_157
                · refine z_iload C hl 5 rfl dX7_year_142 ?_
                  exact z_retSi C hr hlocks rfl (by first | (rw [if_neg b_1]; done) | (rw [if_pos b_1, if_neg (by omega)]; done) | (rw [if_pos b_1, if_pos (by omega)]; rw [show i = n0 from (by omega)] at i1 i2 i3; first | (rw [if_pos (by omega)]; exact i1) | (rw [if_neg (by omega), if_pos (by omega)]; exact i2) | (rw [if_neg (by omega), if_neg (by omega)]; exact i3))) dX7_year_144
              · refine z_bipush C (by decide +kernel) dX7_year_66 ?_
                refine z_iload C hl 4 rfl dX7_year_68 ?_
                refine z_imul C dX7_year_70 ?_
                refine z_bipush C (by decide +kernel) dX7_year_71 ?_
                refine z_iadd C dX7_year_73 ?_
                refine z_ldcw C (z := 65537) wd_840 (by decide +kernel) dX7_year_74 ?_
                refine z_irem C ⟨by omega, by omega, by omega, by omega⟩ dX7_year_77 ?_
                refine z_topi (fun x1 hx1 => ?_)
                refine z_istore C [1, 2, 3, 4, 0, 5, 6, 7, 8] [(0, .ref (a 0)), (1, .int (iI seed)), (2, .int (iI n0)), (3, .int (iI wh)), (4, .int (iI x1)), (5, .int (iI sm)), (6, .int (iI ls0)), (7, .int (iI gr)), (8, .int (iI i))] hl (by decide) rfl dX7_year_78 (fun ls hl => ?_)
                refine z_iconst C dX7_year_80 ?_
                refine z_iload C hl 4 rfl dX7_year_81 ?_
                refine z_iconst C dX7_year_83 ?_
                refine z_irem C ⟨by omega, by omega, by omega, by omega⟩ dX7_year_84 ?_
                refine z_iadd C dX7_year_85 ?_
                refine z_topi (fun x2 hx2 => ?_)
                refine z_istore C [1, 2, 3, 4, 5, 6, 7, 8, 9, 0] [(0, .ref (a 0)), (1, .int (iI seed)), (2, .int (iI n0)), (3, .int (iI wh)), (4, .int (iI x1)), (5, .int (iI sm)), (6, .int (iI ls0)), (7, .int (iI gr)), (8, .int (iI i)), (9, .int (iI x2))] hl (by decide) rfl dX7_year_86 (fun ls hl => ?_)
                refine z_aload_n C hl 0 rfl dX7_year_88 ?_
                refine z_iload C hl 9 rfl dX7_year_89 ?_
                refine z_iload C hl 9 rfl dX7_year_91 ?_
                refine z_iconst C dX7_year_93 ?_
                refine z_iload C hl 4 rfl dX7_year_94 ?_
                refine z_iconst C dX7_year_96 ?_
                refine z_idiv C ⟨by omega, by omega, by omega, by omega⟩ dX7_year_97 ?_
                refine z_bipush C (by decide +kernel) dX7_year_98 ?_
                refine z_irem C ⟨by omega, by omega, by omega, by omega⟩ dX7_year_100 ?_
                refine z_iadd C dX7_year_101 ?_
                refine z_vSi C hP (As := [.int (iI x2), .int (iI x2), .int (iI (4 + ((x1 / 3) % 7)))]) lk_X7_188 (c_X7_secondsAtBeat hI σ x2 x2 (4 + ((x1 / 3) % 7)) hse hrd hn hg (by omega) (by omega) (by omega)) ob_0 rfl rfl rfl hl.1 rfl (Nat.le_of_ble_eq_true rfl) ⟨Nat.le_of_ble_eq_true rfl, Nat.le_of_ble_eq_true rfl⟩ ⟨Nat.zero_le _, Nat.zero_le _⟩ dX7_year_102 ?_
                have hqb := mSAB_b σ x2 x2 (4 + x1 / 3 % 7) hn
                refine z_topi (fun x3 hx3 => ?_)
                refine z_istore C [1, 2, 3, 4, 5, 6, 7, 8, 9, 10, 0] [(0, .ref (a 0)), (1, .int (iI seed)), (2, .int (iI n0)), (3, .int (iI wh)), (4, .int (iI x1)), (5, .int (iI sm)), (6, .int (iI ls0)), (7, .int (iI gr)), (8, .int (iI i)), (9, .int (iI x2)), (10, .int (iI x3))] hl (by decide) rfl dX7_year_105 (fun ls hl => ?_)
                have hv : x3 = mYv σ seed i := by unfold mYv; rw [mYx_s _ ii.1, ← ix]; subst_vars; rfl
                refine z_iload C hl 5 rfl dX7_year_107 ?_
                refine z_iload C hl 10 rfl dX7_year_109 ?_
                refine z_iadd C dX7_year_111 ?_
                refine z_topi (fun x4 hx4 => ?_)
                refine z_istore C [1, 2, 3, 4, 5, 0, 6, 7, 8, 9, 10] [(0, .ref (a 0)), (1, .int (iI seed)), (2, .int (iI n0)), (3, .int (iI wh)), (4, .int (iI x1)), (5, .int (iI x4)), (6, .int (iI ls0)), (7, .int (iI gr)), (8, .int (iI i)), (9, .int (iI x2)), (10, .int (iI x3))] hl (by decide) rfl dX7_year_112 (fun ls hl => ?_)
                refine z_iload C hl 6 rfl dX7_year_114 ?_
                refine z_iload C hl 10 rfl dX7_year_116 ?_
                refine z_min C ⟨by omega, by omega⟩ ⟨by omega, by omega⟩ wd_656 hl.1 ⟨(Nat.le_of_ble_eq_true rfl), (Nat.le_of_ble_eq_true rfl)⟩ ⟨Nat.zero_le _, Nat.zero_le _⟩ dX7_year_118 ?_
                refine z_topi (fun x5 hx5 => ?_)
                refine z_istore C [1, 2, 3, 4, 5, 6, 0, 7, 8, 9, 10] [(0, .ref (a 0)), (1, .int (iI seed)), (2, .int (iI n0)), (3, .int (iI wh)), (4, .int (iI x1)), (5, .int (iI x4)), (6, .int (iI x5)), (7, .int (iI gr)), (8, .int (iI i)), (9, .int (iI x2)), (10, .int (iI x3))] hl (by decide) rfl dX7_year_121 (fun ls hl => ?_)
                refine z_iload C hl 7 rfl dX7_year_123 ?_
                refine z_iload C hl 10 rfl dX7_year_125 ?_
                refine z_max C ⟨by omega, by omega⟩ ⟨by omega, by omega⟩ wd_511 hl.1 ⟨(Nat.le_of_ble_eq_true rfl), (Nat.le_of_ble_eq_true rfl)⟩ ⟨Nat.zero_le _, Nat.zero_le _⟩ dX7_year_127 ?_
                refine z_topi (fun x6 hx6 => ?_)
                refine z_istore C [1, 2, 3, 4, 5, 6, 7, 0, 8, 9, 10] [(0, .ref (a 0)), (1, .int (iI seed)), (2, .int (iI n0)), (3, .int (iI wh)), (4, .int (iI x1)), (5, .int (iI x4)), (6, .int (iI x5)), (7, .int (iI x6)), (8, .int (iI i)), (9, .int (iI x2)), (10, .int (iI x3))] hl (by decide) rfl dX7_year_130 (fun ls hl => ?_)
                refine z_iinc C 8 [1, 2, 3, 4, 5, 6, 7, 8, 0, 9, 10] [(0, .ref (a 0)), (1, .int (iI seed)), (2, .int (iI n0)), (3, .int (iI wh)), (4, .int (iI x1)), (5, .int (iI x4)), (6, .int (iI x5)), (7, .int (iI x6)), (8, .int (iI (i + 1))), (9, .int (iI x2)), (10, .int (iI x3))] hl rfl (by decide) rfl dX7_year_132 (fun ls hl => ?_)
                refine z_goto C 60 dX7_year_135 (by decide) ?_
                exact ih_60 x1 x4 x5 x6 (i + 1) ls (by omega) (by rw [mYx_s _ ii.1, ← ix]; omega) (by rw [mSum_s _ ii.1, ← i1, ← hv]; omega) (by rw [mMnS_s _ _ ii.1, ← i2, ← hv]; omega) (by rw [mMxS_s _ _ ii.1, ← i3, ← hv]; omega) (by omega) (by omega) (by omega) (by omega) (lv_sub hl [0, 1, 2, 3, 4, 5, 6, 7, 8] rfl)
          exact L_60 _ seed 0 1000000000 0 0 ls (by omega) (by rfl) (by rfl) (by rfl) (by rfl) (by omega) (by omega) (by omega) (Nat.lt_succ_self _) (lv_sub hl [0, 1, 2, 3, 4, 5, 6, 7, 8] rfl)
        · rw [show (if 0 ≤ wh ∧ wh ≤ 2 then (1 : Int) else 0) = 0 from if_neg b_34]
          refine z_ifF_ne C 43 dX7_year_37 (by decide) ⟨by decide, by decide⟩ (by decide) ?_
          refine z_bipush C (by decide +kernel) dX7_year_40 ?_
          exact z_retSi C hr hlocks rfl (by first | (rw [if_neg b_1]; done) | (rw [if_pos b_1, if_neg (by omega)]; done) | (rw [if_pos b_1, if_pos (by omega)]; rw [show i = n0 from (by omega)] at i1 i2 i3; first | (rw [if_pos (by omega)]; exact i1) | (rw [if_neg (by omega), if_pos (by omega)]; exact i2) | (rw [if_neg (by omega), if_neg (by omega)]; exact i3))) dX7_year_42
      · rw [show (if 1 ≤ n0 ∧ n0 ≤ 99 then (1 : Int) else 0) = 0 from if_neg b_25]
        refine z_ifT_eq C 40 dX7_year_28 (by decide) ⟨by decide, by decide⟩ (by decide) ?_
        refine z_bipush C (by decide +kernel) dX7_year_40 ?_
        exact z_retSi C hr hlocks rfl (by first | (rw [if_neg b_1]; done) | (rw [if_pos b_1, if_neg (by omega)]; done) | (rw [if_pos b_1, if_pos (by omega)]; rw [show i = n0 from (by omega)] at i1 i2 i3; first | (rw [if_pos (by omega)]; exact i1) | (rw [if_neg (by omega), if_pos (by omega)]; exact i2) | (rw [if_neg (by omega), if_neg (by omega)]; exact i3))) dX7_year_42
    · rw [show (if 0 ≤ seed ∧ seed ≤ 9999 then (1 : Int) else 0) = 0 from if_neg b_15]
      refine z_ifT_eq C 40 dX7_year_18 (by decide) ⟨by decide, by decide⟩ (by decide) ?_
      refine z_bipush C (by decide +kernel) dX7_year_40 ?_
      exact z_retSi C hr hlocks rfl (by first | (rw [if_neg b_1]; done) | (rw [if_pos b_1, if_neg (by omega)]; done) | (rw [if_pos b_1, if_pos (by omega)]; rw [show i = n0 from (by omega)] at i1 i2 i3; first | (rw [if_pos (by omega)]; exact i1) | (rw [if_neg (by omega), if_pos (by omega)]; exact i2) | (rw [if_neg (by omega), if_neg (by omega)]; exact i3))) dX7_year_42
  · rw [show (if σ (40 + σ 32 7) 0 = 1 ∧ σ (40 + σ 32 8) 0 = 1 then (1 : Int) else 0) = 0 from if_neg b_1]
    refine z_ifF_ne C 10 dX7_year_4 (by decide) ⟨by decide, by decide⟩ (by decide) ?_
    refine z_bipush C (by decide +kernel) dX7_year_7 ?_
    exact z_retSi C hr hlocks rfl (by first | (rw [if_neg b_1]; done) | (rw [if_pos b_1, if_neg (by omega)]; done) | (rw [if_pos b_1, if_pos (by omega)]; rw [show i = n0 from (by omega)] at i1 i2 i3; first | (rw [if_pos (by omega)]; exact i1) | (rw [if_neg (by omega), if_pos (by omega)]; exact i2) | (rw [if_neg (by omega), if_neg (by omega)]; exact i3))) dX7_year_9

set_option maxRecDepth 20000 in
set_option maxHeartbeats 4000000 in
theorem c_X7_chancesOfSlips {l : Launch} {D : va_G} {Y : Nat → ClassId} {a : Int → Nat} (hI : zI a) (σ : zS) (nn m0 t0 : Int) (hn : 0 ≤ nn ∧ nn ≤ 12) (hm : 0 ≤ m0 ∧ m0 ≤ nn) (ht : 0 ≤ t0 ∧ t0 ≤ 10) : zMet l yX7_chancesOfSlips cX7_chancesOfSlips 8 (some .long) 1 (zPc D Y a σ [.int (iI nn), .int (iI m0), .int (iI t0)]) (zSl (mSum (mChF nn t0) (m0 + 1).toNat)) zNo := by
  refine z_start rfl (Nat.le_of_ble_eq_true rfl) hI ?_
  intro p e s m below meth c ls C hr hlocks hl hP
  have hl : lv_has ls 8 [(0, .int (iI nn)), (1, .int (iI m0)), (2, .int (iI t0))] := hl
  refine z_lconst C (z := 0) rfl dX7_chancesOfSlips_0 ?_
  refine z_lstore_n C [1, 2, 3, 0] [(0, .int (iI nn)), (1, .int (iI m0)), (2, .int (iI t0)), (3, .long (jI 0))] hl (by decide) rfl dX7_chancesOfSlips_1 (fun ls hl => ?_)
  refine z_lconst C (z := 1) rfl dX7_chancesOfSlips_2 ?_
  refine z_lstore C [1, 2, 3, 4, 0] [(0, .int (iI nn)), (1, .int (iI m0)), (2, .int (iI t0)), (3, .long (jI 0)), (5, .long (jI 1))] hl (by decide) rfl dX7_chancesOfSlips_3 (fun ls hl => ?_)
  refine z_iconst C dX7_chancesOfSlips_5 ?_
  refine z_istore C [1, 2, 3, 4, 5, 0] [(0, .int (iI nn)), (1, .int (iI m0)), (2, .int (iI t0)), (3, .long (jI 0)), (5, .long (jI 1)), (7, .int (iI 0))] hl (by decide) rfl dX7_chancesOfSlips_6 (fun ls hl => ?_)
  have L_8 : ∀ (n : Nat) (ch : Int) (wy : Int) (s0 : Int) (ls : Array Slot), (0 ≤ s0 ∧ s0 ≤ m0 + 1) → (ch = mSum (mChF nn t0) s0.toNat) → (wy = (mChN nn.toNat s0.toNat : Int)) → ((m0 + 1 - s0).toNat) < n → lv_has ls 8 [(0, .int (iI nn)), (1, .int (iI m0)), (2, .int (iI t0)), (3, .long (jI ch)), (5, .long (jI wy)), (7, .int (iI s0))] → W p l e (zR 1) s m ([.int (iI nn), .int (iI m0), .int (iI t0)] : List Value).toArray below meth c s.heap [] 0 0 (MQ below (zSl (mSum (mChF nn t0) (m0 + 1).toNat)) ([.int (iI nn), .int (iI m0), .int (iI t0)] : List Value).toArray s 0 0 zNo) (F0 m 8 ls []) := by
    intro n
    induction n with
    | zero =>
      intros; omega
    | succ n ih_8 =>
      intro ch wy s0 ls ii i1 i2 hm hl
      refine z_iload C hl 5 rfl dX7_chancesOfSlips_8 ?_
      refine z_iload_n C hl 1 rfl dX7_chancesOfSlips_10 ?_
      refine z_icmp_gt C 62 dX7_chancesOfSlips_11 (by decide) ⟨by omega, by omega⟩ ⟨by omega, by omega⟩ (fun c_11 => ?_) (fun c_11 => ?_)
      · refine z_lload_n C hl 3 rfl dX7_chancesOfSlips_62 ?_
        exact z_retSl C hr hlocks (by rw [i1, show s0 = m0 + 1 from (by omega)]) dX7_chancesOfSlips_63
      · have hcs := mChN_s nn.toNat (by omega) s0.toNat (by omega) (by omega)
        have hmw := mulb (x := wy) (A := 924) (y := nn - s0) (B := 12) (by omega) (by omega)
        refine z_lload_n C hl 3 rfl dX7_chancesOfSlips_14 ?_
        refine z_lload C hl 4 rfl dX7_chancesOfSlips_15 ?_
        refine z_iload_n C hl 2 rfl dX7_chancesOfSlips_17 ?_
        refine z_i2l C ⟨by omega, by omega⟩ dX7_chancesOfSlips_18 ?_
        refine z_iload C hl 5 rfl dX7_chancesOfSlips_19 ?_
        refine z_sSl C hP (As := [.long (jI t0), .int (iI s0)]) lk_X7_251 (c_X7_power hI σ t0 s0 (by omega)) rfl hl.1 rfl (Nat.le_of_ble_eq_true rfl) ⟨Nat.le_of_ble_eq_true rfl, Nat.le_of_ble_eq_true rfl⟩ ⟨Nat.zero_le _, Nat.zero_le _⟩ dX7_chancesOfSlips_21 ?_
        refine z_lmul C dX7_chancesOfSlips_24 ?_
        refine z_bipush C (by decide +kernel) dX7_chancesOfSlips_25 ?_
        refine z_iload_n C hl 2 rfl dX7_chancesOfSlips_27 ?_
        refine z_isub C dX7_chancesOfSlips_28 ?_
        refine z_i2l C ⟨by omega, by omega⟩ dX7_chancesOfSlips_29 ?_
        refine z_iload_n C hl 0 rfl dX7_chancesOfSlips_30 ?_
        refine z_iload C hl 5 rfl dX7_chancesOfSlips_31 ?_
        refine z_isub C dX7_chancesOfSlips_33 ?_
        refine z_sSl C hP (As := [.long (jI (10 - t0)), .int (iI (nn - s0))]) lk_X7_251 (c_X7_power hI σ (10 - t0) (nn - s0) (by omega)) rfl hl.1 rfl (Nat.le_of_ble_eq_true rfl) ⟨Nat.le_of_ble_eq_true rfl, Nat.le_of_ble_eq_true rfl⟩ ⟨Nat.zero_le _, Nat.zero_le _⟩ dX7_chancesOfSlips_34 ?_
        refine z_lmul C dX7_chancesOfSlips_37 ?_
        refine z_ladd C dX7_chancesOfSlips_38 ?_
        refine z_topl (fun x1 hx1 => ?_)
        refine z_lstore_n C [1, 2, 3, 0, 4, 5] [(0, .int (iI nn)), (1, .int (iI m0)), (2, .int (iI t0)), (3, .long (jI x1)), (5, .long (jI wy)), (7, .int (iI s0))] hl (by decide) rfl dX7_chancesOfSlips_39 (fun ls hl => ?_)
        refine z_lload C hl 4 rfl dX7_chancesOfSlips_40 ?_
        refine z_iload_n C hl 0 rfl dX7_chancesOfSlips_42 ?_
        refine z_iload C hl 5 rfl dX7_chancesOfSlips_43 ?_
        refine z_isub C dX7_chancesOfSlips_45 ?_
        refine z_i2l C ⟨by omega, by omega⟩ dX7_chancesOfSlips_46 ?_
        refine z_lmul C dX7_chancesOfSlips_47 ?_
        refine z_iload C hl 5 rfl dX7_chancesOfSlips_48 ?_
        refine z_iconst C dX7_chancesOfSlips_50 ?_
        refine z_iadd C dX7_chancesOfSlips_51 ?_
        refine z_i2l C ⟨by omega, by omega⟩ dX7_chancesOfSlips_52 ?_
        refine z_ldiv C ⟨by omega, by omega, by omega, by omega⟩ dX7_chancesOfSlips_53 ?_
        refine z_topl (fun x2 hx2 => ?_)
        refine z_lstore C [1, 2, 3, 4, 0, 5] [(0, .int (iI nn)), (1, .int (iI m0)), (2, .int (iI t0)), (3, .long (jI x1)), (5, .long (jI x2)), (7, .int (iI s0))] hl (by decide) rfl dX7_chancesOfSlips_54 (fun ls hl => ?_)
        refine z_iinc C 5 [1, 2, 3, 4, 5, 0] [(0, .int (iI nn)), (1, .int (iI m0)), (2, .int (iI t0)), (3, .long (jI x1)), (5, .long (jI x2)), (7, .int (iI (s0 + 1)))] hl rfl (by decide) rfl dX7_chancesOfSlips_56 (fun ls hl => ?_)
        refine z_goto C 8 dX7_chancesOfSlips_59 (by decide) ?_
        exact ih_8 x1 x2 (s0 + 1) ls (by omega) (by rw [mSum_s _ ii.1, ← i1, mChF, ← i2]; omega) (by rw [(zt_s ii.1).1, ← hcs.1, Int.natCast_ediv, Int.natCast_mul, ← i2]; rw [show ((nn.toNat - s0.toNat : Nat) : Int) = nn - s0 from (by omega), show ((s0.toNat + 1 : Nat) : Int) = s0 + 1 from (by omega)]; omega) (by omega) (lv_sub hl [0, 1, 2, 3, 4, 5] rfl)
  exact L_8 _ 0 1 0 ls (by omega) (by rfl) (by show (1 : Int) = (mChN nn.toNat 0 : Int); unfold mChN; rfl) (Nat.lt_succ_self _) (lv_sub hl [0, 1, 2, 3, 4, 5] rfl)

set_option maxRecDepth 20000 in
set_option maxHeartbeats 4000000 in
theorem c_X7_home {l : Launch} {D : va_G} {Y : Nat → ClassId} {a : Int → Nat} (hI : zI a) (σ : zS) (t0 sec pt : Int) (r1 : R3 t0) (r2 : R3 sec) (r3 : R3 pt) (hth : ∀ r : Int, 0 ≤ r → r ≤ 3 → σ (40 + r) 0 = 0 ∨ σ (40 + r) 0 = 1) (hn : 1 ≤ σ 32 12 ∧ σ 32 12 ≤ 24) (hg : ∀ i : Int, 0 ≤ i → i < 24 → -1 ≤ σ 35 i ∧ σ 35 i ≤ 6) (hse : (0 ≤ σ 32 7 ∧ σ 32 7 ≤ 3) ∧ (0 ≤ σ 32 8 ∧ σ 32 8 ≤ 3)) (hrd : ∀ r : Int, 0 ≤ r → r ≤ 3 → (0 ≤ σ (40 + r) 1 ∧ σ (40 + r) 1 ≤ 20) ∧ (0 ≤ σ (40 + r) 2 ∧ σ (40 + r) 2 ≤ 10) ∧ (0 ≤ σ (40 + r) 3 ∧ σ (40 + r) 3 ≤ 9) ∧ (0 ≤ σ (40 + r) 4 ∧ σ (40 + r) 4 ≤ 50)) (hho : 5 ≤ σ 32 9 ∧ σ 32 9 ≤ 20) (hpz : 0 ≤ σ 32 10 ∧ σ 32 10 ≤ 99) (hp : 0 ≤ σ 3 1 ∧ σ 3 1 ≤ 110) (hq : ∀ i : Int, 0 ≤ i → i < 110 → 0 ≤ σ 4 i ∧ σ 4 i ≤ 126) : zMet l yX7_home cX7_home 8 (some .long) 5 (zPc D Y a σ [.ref (a 0), .int (iI t0), .int (iI sec), .int (iI pt)]) (zQl D Y a (fun r τ => (¬ (σ (40 + σ 32 7) 0 = 1 ∧ σ (40 + σ 32 8) 0 = 1) → r = (-1000000000000000003)) ∧ (σ (40 + σ 32 7) 0 = 1 ∧ σ (40 + σ 32 8) 0 = 1 → ¬ ((0 ≤ t0 ∧ t0 ≤ 10) ∧ (0 ≤ sec ∧ sec ≤ 9999) ∧ 0 ≤ pt ∧ pt ≤ 1) → r = (-1000000000000000002)) ∧ (σ (40 + σ 32 7) 0 = 1 ∧ σ (40 + σ 32 8) 0 = 1 → (0 ≤ t0 ∧ t0 ≤ 10) ∧ (0 ≤ sec ∧ sec ≤ 9999) ∧ 0 ≤ pt ∧ pt ≤ 1 → ¬ (kPl σ ∧ kAll σ) → r = (-1000000000000000005)) ∧ (σ (40 + σ 32 7) 0 = 1 ∧ σ (40 + σ 32 8) 0 = 1 → (0 ≤ t0 ∧ t0 ≤ 10) ∧ (0 ≤ sec ∧ sec ≤ 9999) ∧ 0 ≤ pt ∧ pt ≤ 1 → kPl σ → kAll σ → r = if 12 < mSum (fun i => if σ 35 i = 5 then 1 else 0) (σ 32 12).toNat then (-1000000000000000004) else mFrac (if sec - kS (kRho σ) (-1) (σ 32 12).toNat < 0 then 0 else mSum (mChF (mSum (fun i => if σ 35 i = 5 then 1 else 0) (σ 32 12).toNat) t0) (min (mSum (fun i => if σ 35 i = 5 then 1 else 0) (σ 32 12).toNat) ((sec - kS (kRho σ) (-1) (σ 32 12).toNat) / 5) + 1).toNat) (10 ^ (mSum (fun i => if σ 35 i = 5 then 1 else 0) (σ 32 12).toNat).toNat) pt) ∧ (∀ k : Int, k < 6 ∨ 14 < k → τ k = σ k))) (inA a) := by
  refine z_start rfl (Nat.le_of_ble_eq_true rfl) hI ?_
  intro p e s m below meth c ls C hr hlocks hl hP
  have hS : va_S (inA a) s.heap s.heap [] := va_S.rf
  have hl : lv_has ls 8 [(0, .ref (a 0)), (1, .int (iI t0)), (2, .int (iI sec)), (3, .int (iI pt))] := hl
  skip
  refine z_aload_n C hl 0 rfl dX7_home_0 ?_
  refine z_vSi C hP (As := []) lk_X7_122 (c_X7_areSeated hI σ  hth hse) ob_0 rfl rfl rfl hl.1 rfl (Nat.le_of_ble_eq_true rfl) ⟨Nat.le_of_ble_eq_true rfl, Nat.le_of_ble_eq_true rfl⟩ ⟨Nat.zero_le _, Nat.zero_le _⟩ dX7_home_1 ?_
  by_cases b_1 : σ (40 + σ 32 7) 0 = 1 ∧ σ (40 + σ 32 8) 0 = 1
  · rw [show (if σ (40 + σ 32 7) 0 = 1 ∧ σ (40 + σ 32 8) 0 = 1 then (1 : Int) else 0) = 1 from if_pos b_1]
    refine z_ifT_ne C 11 dX7_home_4 (by decide) ⟨by decide, by decide⟩ (by decide) ?_
    refine z_iload_n C hl 1 rfl dX7_home_11 ?_
    refine z_iconst C dX7_home_12 ?_
    refine z_bipush C (by decide +kernel) dX7_home_13 ?_
    refine z_sSi C hP (As := [.int (iI t0), .int (iI 0), .int (iI 10)]) lk_X7_52 (c_X7_isWithin hI σ t0 0 10 r1 ⟨by decide, by decide⟩ ⟨by decide, by decide⟩) rfl hl.1 rfl (Nat.le_of_ble_eq_true rfl) ⟨Nat.le_of_ble_eq_true rfl, Nat.le_of_ble_eq_true rfl⟩ ⟨Nat.zero_le _, Nat.zero_le _⟩ dX7_home_15 ?_
    by_cases b_15 : 0 ≤ t0 ∧ t0 ≤ 10
    · rw [show (if 0 ≤ t0 ∧ t0 ≤ 10 then (1 : Int) else 0) = 1 from if_pos b_15]
      refine z_ifF_eq C 32 dX7_home_18 (by decide) ⟨by decide, by decide⟩ (by decide) ?_
      refine z_iload_n C hl 2 rfl dX7_home_21 ?_
      refine z_iconst C dX7_home_22 ?_
      refine z_sipush C (by decide +kernel) dX7_home_23 ?_
      refine z_sSi C hP (As := [.int (iI sec), .int (iI 0), .int (iI 9999)]) lk_X7_52 (c_X7_isWithin hI σ sec 0 9999 r2 ⟨by decide, by decide⟩ ⟨by decide, by decide⟩) rfl hl.1 rfl (Nat.le_of_ble_eq_true rfl) ⟨Nat.le_of_ble_eq_true rfl, Nat.le_of_ble_eq_true rfl⟩ ⟨Nat.zero_le _, Nat.zero_le _⟩ dX7_home_26 ?_
      by_cases b_26 : 0 ≤ sec ∧ sec ≤ 9999
      · rw [show (if 0 ≤ sec ∧ sec ≤ 9999 then (1 : Int) else 0) = 1 from if_pos b_26]
        refine z_ifT_ne C 36 dX7_home_29 (by decide) ⟨by decide, by decide⟩ (by decide) ?_
        refine z_iload_n C hl 3 rfl dX7_home_36 ?_
        refine z_iconst C dX7_home_37 ?_
        refine z_iconst C dX7_home_38 ?_
        refine z_sSi C hP (As := [.int (iI pt), .int (iI 0), .int (iI 1)]) lk_X7_52 (c_X7_isWithin hI σ pt 0 1 r3 ⟨by decide, by decide⟩ ⟨by decide, by decide⟩) rfl hl.1 rfl (Nat.le_of_ble_eq_true rfl) ⟨Nat.le_of_ble_eq_true rfl, Nat.le_of_ble_eq_true rfl⟩ ⟨Nat.zero_le _, Nat.zero_le _⟩ dX7_home_39 ?_
        by_cases b_39 : 0 ≤ pt ∧ pt ≤ 1
        · rw [show (if 0 ≤ pt ∧ pt ≤ 1 then (1 : Int) else 0) = 1 from if_pos b_39]
          refine z_ifT_ne C 49 dX7_home_42 (by decide) ⟨by decide, by decide⟩ (by decide) ?_
          refine z_aload_n C hl 0 rfl dX7_home_49 ?_
          refine z_vQi hS C hP (As := []) lk_X7_136 (c_X7_planIsRidden hI σ  hth hn hg hse hrd hho hpz hp hq) ob_0 rfl rfl rfl hl.1 rfl (Nat.le_of_ble_eq_true rfl) ⟨Nat.le_of_ble_eq_true rfl, Nat.le_of_ble_eq_true rfl⟩ ⟨Nat.zero_le _, Nat.zero_le _⟩ dX7_home_50 (fun r1 t2 H locs hp50 hP hS => ?_)
          have ft2 : ∀ k : Int, k < 6 ∨ 14 < k → t2 k = σ k := hp50.2
          have hr01 : r1 = 0 ∨ r1 = 1 := by rcases hp50.1 with h | h; exact Or.inr h.1; exact Or.inl h.1
          refine z_if_ne C 60 dX7_home_53 (by decide) ⟨by omega, by omega⟩ (fun c_53 => ?_) (fun c_53 => ?_)
          · have hPA : kPl σ ∧ kAll σ ∧ kA (kRho σ) t2 (σ 32 12).toNat ∧ kD (kRho σ) t2 (-1) (σ 32 12) := by rcases hp50.1 with h | h; exact h.2; exact absurd h.1 c_53
            have hkb := kSum_b hn hse hrd hpz hPA.1
            have hdl := (hPA.2.2.2 (σ 32 12 - 1) (by omega) (by omega)).1
            rw [show σ 32 12 - 1 + 1 = σ 32 12 from (by omega)] at hdl
            refine z_aload_n C hl 0 rfl dX7_home_60 ?_
            refine zg_X7_12 C hP dX7_home_61 ?_
            refine z_vSi C hP (As := []) lk_X7_222 (c_X6_corners hI t2  (by rw [ft2 32 (by omega)]; exact hn) (by rw [ft2 35 (by omega)]; exact hg)) (ob_set (by unfold zSet; omega)) rfl rfl rfl hl.1 rfl (Nat.le_of_ble_eq_true rfl) ⟨Nat.le_of_ble_eq_true rfl, Nat.le_of_ble_eq_true rfl⟩ ⟨Nat.zero_le _, Nat.zero_le _⟩ dX7_home_64 ?_
            rw [ft2 32 (by omega), ft2 35 (by omega)]
            have hcn := mCnt_b (fun i => σ 35 i = 5) (σ 32 12).toNat
            refine z_topi (fun x3 hx3 => ?_)
            refine z_istore C [1, 2, 3, 4, 0] [(0, .ref (a 0)), (1, .int (iI t0)), (2, .int (iI sec)), (3, .int (iI pt)), (4, .int (iI x3))] hl (by decide) rfl dX7_home_67 (fun ls hl => ?_)
            refine z_iload C hl 4 rfl dX7_home_69 ?_
            refine z_bipush C (by decide +kernel) dX7_home_71 ?_
            refine z_icmp_le C 80 dX7_home_73 (by decide) ⟨by omega, by omega⟩ ⟨by omega, by omega⟩ (fun c_73 => ?_) (fun c_73 => ?_)
            · refine z_iload_n C hl 2 rfl dX7_home_80 ?_
              refine z_aload_n C hl 0 rfl dX7_home_81 ?_
              refine zg_X7_41 C hP dX7_home_82 ?_
              refine zg_X7_139 C hP dX7_home_85 ?_
              refine z_aload_n C hl 0 rfl dX7_home_88 ?_
              refine zg_X7_12 C hP dX7_home_89 ?_
              refine zg32_X7_104 C hP dX7_home_92 ?_
              rw [show t2 32 12 = σ 32 12 from by rw [ft2 32 (by omega)]]
              refine z_iconst C dX7_home_95 ?_
              refine z_isub C dX7_home_96 ?_
              refine z_iald C hP ia_11 ⟨by omega, by omega⟩ dX7_home_97 ?_
              refine z_isub C dX7_home_98 ?_
              refine z_topi (fun x4 hx4 => ?_)
              refine z_istore C [1, 2, 3, 4, 5, 0] [(0, .ref (a 0)), (1, .int (iI t0)), (2, .int (iI sec)), (3, .int (iI pt)), (4, .int (iI x3)), (5, .int (iI x4))] hl (by decide) rfl dX7_home_99 (fun ls hl => ?_)
              refine z_iload C hl 5 rfl dX7_home_101 ?_
              refine z_if_ge C 110 dX7_home_103 (by decide) ⟨by omega, by omega⟩ (fun c_103 => ?_) (fun c_103 => ?_)
              · refine z_iload C hl 4 rfl dX7_home_110 ?_
                refine z_iload C hl 4 rfl dX7_home_112 ?_
                refine z_iload C hl 5 rfl dX7_home_114 ?_
                refine z_iconst C dX7_home_116 ?_
                refine z_idiv C ⟨by omega, by omega, by omega, by omega⟩ dX7_home_117 ?_
                refine z_min C ⟨by omega, by omega⟩ ⟨by omega, by omega⟩ wd_656 hl.1 ⟨(Nat.le_of_ble_eq_true rfl), (Nat.le_of_ble_eq_true rfl)⟩ ⟨Nat.zero_le _, Nat.zero_le _⟩ dX7_home_118 ?_
                refine z_iload_n C hl 1 rfl dX7_home_121 ?_
                refine z_sSl C hP (As := [.int (iI x3), .int (iI (min x3 (x4 / 5))), .int (iI t0)]) lk_X7_245 (c_X7_chancesOfSlips hI t2 x3 (min x3 (x4 / 5)) t0 (by omega) (by omega) (by omega)) rfl hl.1 rfl (Nat.le_of_ble_eq_true rfl) ⟨Nat.le_of_ble_eq_true rfl, Nat.le_of_ble_eq_true rfl⟩ ⟨Nat.zero_le _, Nat.zero_le _⟩ dX7_home_122 ?_
                have hcb := mChS_b (n := x3) (t := t0) (m := min x3 (x4 / 5) + 1) (by omega) (by omega) (by omega)
                refine z_topl (fun x5 hx5 => ?_)
                refine z_lstore C [1, 2, 3, 4, 5, 6, 0] [(0, .ref (a 0)), (1, .int (iI t0)), (2, .int (iI sec)), (3, .int (iI pt)), (4, .int (iI x3)), (5, .int (iI x4)), (6, .long (jI x5))] hl (by decide) rfl dX7_home_125 (fun ls hl => ?_)
                refine z_lload C hl 6 rfl dX7_home_127 ?_
                refine z_ldc2 C (z := 10) wd_768 (by decide +kernel) dX7_home_129 ?_
                refine z_iload C hl 4 rfl dX7_home_132 ?_
                refine z_sSl C hP (As := [.long (jI 10), .int (iI x3)]) lk_X7_251 (c_X7_power hI t2 10 x3 (by omega)) rfl hl.1 rfl (Nat.le_of_ble_eq_true rfl) ⟨Nat.le_of_ble_eq_true rfl, Nat.le_of_ble_eq_true rfl⟩ ⟨Nat.zero_le _, Nat.zero_le _⟩ dX7_home_134 ?_
                have hp10 := mP10 x3.toNat (by omega)
                refine z_iload_n C hl 3 rfl dX7_home_137 ?_
                refine z_sSl C hP (As := [.long (jI x5), .long (jI (10 ^ x3.toNat)), .int (iI pt)]) lk_X7_164 (c_X7_fractionPart hI t2 x5 (10 ^ x3.toNat) pt (by omega) (by omega) (by omega)) rfl hl.1 rfl (Nat.le_of_ble_eq_true rfl) ⟨Nat.le_of_ble_eq_true rfl, Nat.le_of_ble_eq_true rfl⟩ ⟨Nat.zero_le _, Nat.zero_le _⟩ dX7_home_138 ?_
                exact z_retQl C hP hS hr hlocks (by exact ⟨fun h => absurd b_1 h, fun _ h => (by exfalso; omega), fun _ _ h => absurd ⟨hPA.1, hPA.2.1⟩ h, fun _ _ _ _ => (by subst_vars; rw [if_neg (by omega)]; first | (rw [if_pos (by omega)]; done) | (rw [if_neg (by omega)]; rw [hdl]; done) | (rw [if_neg (by omega), hdl])), ft2⟩) dX7_home_141
              · refine z_lconst C (z := 0) rfl dX7_home_106 ?_
                refine z_goto C 125 dX7_home_107 (by decide) ?_
                refine z_lstore C [1, 2, 3, 4, 5, 6, 0] [(0, .ref (a 0)), (1, .int (iI t0)), (2, .int (iI sec)), (3, .int (iI pt)), (4, .int (iI x3)), (5, .int (iI x4)), (6, .long (jI 0))] hl (by decide) rfl dX7_home_125 (fun ls hl => ?_)
                refine z_lload C hl 6 rfl dX7_home_127 ?_
                refine z_ldc2 C (z := 10) wd_768 (by decide +kernel) dX7_home_129 ?_
                refine z_iload C hl 4 rfl dX7_home_132 ?_
                refine z_sSl C hP (As := [.long (jI 10), .int (iI x3)]) lk_X7_251 (c_X7_power hI t2 10 x3 (by omega)) rfl hl.1 rfl (Nat.le_of_ble_eq_true rfl) ⟨Nat.le_of_ble_eq_true rfl, Nat.le_of_ble_eq_true rfl⟩ ⟨Nat.zero_le _, Nat.zero_le _⟩ dX7_home_134 ?_
                have hp10 := mP10 x3.toNat (by omega)
                refine z_iload_n C hl 3 rfl dX7_home_137 ?_
                refine z_sSl C hP (As := [.long (jI 0), .long (jI (10 ^ x3.toNat)), .int (iI pt)]) lk_X7_164 (c_X7_fractionPart hI t2 0 (10 ^ x3.toNat) pt (by omega) (by omega) (by omega)) rfl hl.1 rfl (Nat.le_of_ble_eq_true rfl) ⟨Nat.le_of_ble_eq_true rfl, Nat.le_of_ble_eq_true rfl⟩ ⟨Nat.zero_le _, Nat.zero_le _⟩ dX7_home_138 ?_
                exact z_retQl C hP hS hr hlocks (by exact ⟨fun h => absurd b_1 h, fun _ h => (by exfalso; omega), fun _ _ h => absurd ⟨hPA.1, hPA.2.1⟩ h, fun _ _ _ _ => (by subst_vars; rw [if_neg (by omega)]; first | (rw [if_pos (by omega)]; done) | (rw [if_neg (by omega)]; rw [hdl]; done) | (rw [if_neg (by omega), hdl])), ft2⟩) dX7_home_141
            · refine z_ldc2 C (z := (-1000000000000000004)) wd_767 (by decide +kernel) dX7_home_76 ?_
              exact z_retQl C hP hS hr hlocks (by exact ⟨fun h => absurd b_1 h, fun _ h => (by exfalso; omega), fun _ _ h => absurd ⟨hPA.1, hPA.2.1⟩ h, fun _ _ _ _ => (by rw [if_pos (by omega)]), ft2⟩) dX7_home_79
          · refine z_ldc2 C (z := (-1000000000000000005)) wd_463 (by decide +kernel) dX7_home_56 ?_
            exact z_retQl C hP hS hr hlocks (by exact ⟨fun h => absurd b_1 h, fun _ h => (by exfalso; omega), fun _ _ _ => rfl, fun _ _ h1 h2 => absurd (And.intro h1 h2) (by rcases hp50.1 with h | h; exact absurd h.1 (by omega); exact h.2), ft2⟩) dX7_home_59
        · rw [show (if 0 ≤ pt ∧ pt ≤ 1 then (1 : Int) else 0) = 0 from if_neg b_39]
          refine z_ifF_ne C 49 dX7_home_42 (by decide) ⟨by decide, by decide⟩ (by decide) ?_
          refine z_ldc2 C (z := (-1000000000000000002)) wd_462 (by decide +kernel) dX7_home_45 ?_
          exact z_retQl C hP hS hr hlocks (by exact ⟨fun h => absurd b_1 h, fun _ _ => rfl, fun _ h => (by exfalso; omega), fun _ h => (by exfalso; omega), fun _ _ => rfl⟩) dX7_home_48
      · rw [show (if 0 ≤ sec ∧ sec ≤ 9999 then (1 : Int) else 0) = 0 from if_neg b_26]
        refine z_ifF_ne C 36 dX7_home_29 (by decide) ⟨by decide, by decide⟩ (by decide) ?_
        refine z_ldc2 C (z := (-1000000000000000002)) wd_462 (by decide +kernel) dX7_home_32 ?_
        exact z_retQl C hP hS hr hlocks (by exact ⟨fun h => absurd b_1 h, fun _ _ => rfl, fun _ h => (by exfalso; omega), fun _ h => (by exfalso; omega), fun _ _ => rfl⟩) dX7_home_35
    · rw [show (if 0 ≤ t0 ∧ t0 ≤ 10 then (1 : Int) else 0) = 0 from if_neg b_15]
      refine z_ifT_eq C 32 dX7_home_18 (by decide) ⟨by decide, by decide⟩ (by decide) ?_
      refine z_ldc2 C (z := (-1000000000000000002)) wd_462 (by decide +kernel) dX7_home_32 ?_
      exact z_retQl C hP hS hr hlocks (by exact ⟨fun h => absurd b_1 h, fun _ _ => rfl, fun _ h => (by exfalso; omega), fun _ h => (by exfalso; omega), fun _ _ => rfl⟩) dX7_home_35
  · rw [show (if σ (40 + σ 32 7) 0 = 1 ∧ σ (40 + σ 32 8) 0 = 1 then (1 : Int) else 0) = 0 from if_neg b_1]
    refine z_ifF_ne C 11 dX7_home_4 (by decide) ⟨by decide, by decide⟩ (by decide) ?_
    refine z_ldc2 C (z := (-1000000000000000003)) wd_461 (by decide +kernel) dX7_home_7 ?_
    exact z_retQl C hP hS hr hlocks (by exact ⟨fun _ => rfl, fun h => absurd h b_1, fun h => absurd h b_1, fun h => absurd h b_1, fun _ _ => rfl⟩) dX7_home_10
