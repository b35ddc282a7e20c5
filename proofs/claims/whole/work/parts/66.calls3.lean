theorem z_and24 {n : Int} (h : 0 ≤ n ∧ n < 2147483648) : iI n &&& iI 16777215 = iI (n % 16777216) := by
  rw [iI_to n h.1, pk_andN (by omega) 24 (by decide), ← iI_nat]
  congr 1
  rw [Int.natCast_emod, Int.toNat_of_nonneg h.1]
  simp
set_option maxRecDepth 20000 in
set_option maxHeartbeats 4000000 in
theorem c_X7_calls {l : Launch} {D : va_G} {Y : Nat → ClassId} {a : Int → Nat} (hI : zI a) (σ : zS) (mo wh : Int) (r1 : R3 mo) (r2 : R3 wh) (hn : 1 ≤ σ 32 12 ∧ σ 32 12 ≤ 24) (hg : ∀ i : Int, 0 ≤ i → i < 24 → -1 ≤ σ 35 i ∧ σ 35 i ≤ 6) (hcf : (σ 15 10 = 23 ∧ σ 15 11 = 24) ∨ (σ 15 10 = 24 ∧ σ 15 11 = 23)) : zMet l yX7_calls cX7_calls 4 (some .int) 3 (zPc D Y a σ [.ref (a 0), .int (iI mo), .int (iI wh)]) (zQi D Y a (fun r τ => (¬ ((0 ≤ mo ∧ mo ≤ 20) ∧ 0 ≤ wh ∧ wh ≤ 1) → r = -2) ∧ ((0 ≤ mo ∧ mo ≤ 20) ∧ 0 ≤ wh ∧ wh ≤ 1 → (12 < mSum (fun i => if σ 35 i = 5 then 1 else 0) (σ 32 12).toNat + mSum (fun i => if σ 35 i = 6 then 1 else 0) (σ 32 12).toNat → r = -4) ∧ (mSum (fun i => if σ 35 i = 5 then 1 else 0) (σ 32 12).toNat + mSum (fun i => if σ 35 i = 6 then 1 else 0) (σ 32 12).toNat ≤ 12 → ∃ C : Int → Int, kAd (σ 35) C ∧ kVa (σ 35) C mo (σ 32 12) ∧ (∀ C' : Int → Int, kAd (σ 35) C' → kVa (σ 35) C' mo (σ 32 12) → kCo C (σ 32 12).toNat ≤ kCo C' (σ 32 12).toNat) ∧ r = if wh = 0 then kCo C (σ 32 12).toNat / 16777216 else kCo C (σ 32 12).toNat % 16777216)) ∧ ((∀ c : Int, c ≠ 15 → c ≠ 23 → c ≠ 24 → τ c = σ c) ∧ ∀ j : Int, j ≠ 10 → j ≠ 11 → τ 15 j = σ 15 j) ∧ ((τ 15 10 = 23 ∧ τ 15 11 = 24) ∨ (τ 15 10 = 24 ∧ τ 15 11 = 23)))) (inA a) := by
  refine z_start rfl (Nat.le_of_ble_eq_true rfl) hI ?_
  intro p e s m below meth c ls C hr hlocks hl hP
  have hS : va_S (inA a) s.heap s.heap [] := va_S.rf
  have hl : lv_has ls 4 [(0, .ref (a 0)), (1, .int (iI mo)), (2, .int (iI wh))] := hl
  skip
  refine z_iload_n C hl 1 rfl dX7_calls_0 ?_
  refine z_iconst C dX7_calls_1 ?_
  refine z_bipush C (by decide +kernel) dX7_calls_2 ?_
  refine z_sSi C hP (As := [.int (iI mo), .int (iI 0), .int (iI 20)]) lk_X7_52 (c_X7_isWithin hI σ mo 0 20 r1 ⟨by decide, by decide⟩ ⟨by decide, by decide⟩) rfl hl.1 rfl (Nat.le_of_ble_eq_true rfl) ⟨Nat.le_of_ble_eq_true rfl, Nat.le_of_ble_eq_true rfl⟩ ⟨Nat.zero_le _, Nat.zero_le _⟩ dX7_calls_4 ?_
  by_cases b_4 : 0 ≤ mo ∧ mo ≤ 20
  · rw [show (if 0 ≤ mo ∧ mo ≤ 20 then (1 : Int) else 0) = 1 from if_pos b_4]
    refine z_ifF_eq C 19 dX7_calls_7 (by decide) ⟨by decide, by decide⟩ (by decide) ?_
    refine z_iload_n C hl 2 rfl dX7_calls_10 ?_
    refine z_iconst C dX7_calls_11 ?_
    refine z_iconst C dX7_calls_12 ?_
    refine z_sSi C hP (As := [.int (iI wh), .int (iI 0), .int (iI 1)]) lk_X7_52 (c_X7_isWithin hI σ wh 0 1 r2 ⟨by decide, by decide⟩ ⟨by decide, by decide⟩) rfl hl.1 rfl (Nat.le_of_ble_eq_true rfl) ⟨Nat.le_of_ble_eq_true rfl, Nat.le_of_ble_eq_true rfl⟩ ⟨Nat.zero_le _, Nat.zero_le _⟩ dX7_calls_13 ?_
    by_cases b_13 : 0 ≤ wh ∧ wh ≤ 1
    · rw [show (if 0 ≤ wh ∧ wh ≤ 1 then (1 : Int) else 0) = 1 from if_pos b_13]
      refine z_ifT_ne C 22 dX7_calls_16 (by decide) ⟨by decide, by decide⟩ (by decide) ?_
      refine z_aload_n C hl 0 rfl dX7_calls_22 ?_
      refine zg_X7_12 C hP dX7_calls_23 ?_
      refine z_vSi C hP (As := []) lk_X7_222 (c_X6_corners hI σ  hn hg) (ob_set (by unfold zSet; omega)) rfl rfl rfl hl.1 rfl (Nat.le_of_ble_eq_true rfl) ⟨Nat.le_of_ble_eq_true rfl, Nat.le_of_ble_eq_true rfl⟩ ⟨Nat.zero_le _, Nat.zero_le _⟩ dX7_calls_26 ?_
      have hc1 := mCnt_b (fun i => σ 35 i = 5) (σ 32 12).toNat
      refine z_aload_n C hl 0 rfl dX7_calls_29 ?_
      refine zg_X7_12 C hP dX7_calls_30 ?_
      refine z_vSi C hP (As := []) lk_X7_225 (c_X6_bumps hI σ  hn hg) (ob_set (by unfold zSet; omega)) rfl rfl rfl hl.1 rfl (Nat.le_of_ble_eq_true rfl) ⟨Nat.le_of_ble_eq_true rfl, Nat.le_of_ble_eq_true rfl⟩ ⟨Nat.zero_le _, Nat.zero_le _⟩ dX7_calls_33 ?_
      have hc2 := mCnt_b (fun i => σ 35 i = 6) (σ 32 12).toNat
      refine z_iadd C dX7_calls_36 ?_
      refine z_bipush C (by decide +kernel) dX7_calls_37 ?_
      refine z_icmp_le C 45 dX7_calls_39 (by decide) ⟨by omega, by omega⟩ ⟨by omega, by omega⟩ (fun c_39 => ?_) (fun c_39 => ?_)
      · refine z_aload_n C hl 0 rfl dX7_calls_45 ?_
        refine zg_X7_48 C hP dX7_calls_46 ?_
        refine z_aload_n C hl 0 rfl dX7_calls_49 ?_
        refine zg_X7_12 C hP dX7_calls_50 ?_
        refine z_iload_n C hl 1 rfl dX7_calls_53 ?_
        refine z_vQi hS C hP (As := [.ref (a 32), .int (iI mo)]) lk_X7_228 (c_X5_fewestCalls hI σ mo hn hg hcf ⟨by omega, by omega⟩) ob_15 rfl rfl rfl hl.1 rfl (Nat.le_of_ble_eq_true rfl) ⟨Nat.le_of_ble_eq_true rfl, Nat.le_of_ble_eq_true rfl⟩ ⟨Nat.zero_le _, Nat.zero_le _⟩ dX7_calls_54 (fun r1 t2 H locs hp54 hP hS => ?_)
        obtain ⟨⟨C0, k1, k2, k3, k4⟩, k5, k6⟩ := hp54
        have kb := kCo_f C0 (n := (σ 32 12).toNat) (by omega)
        refine z_istore_n C [1, 2, 3, 0] [(0, .ref (a 0)), (1, .int (iI mo)), (2, .int (iI wh)), (3, .int (iI r1))] hl (by decide) rfl dX7_calls_57 (fun ls hl => ?_)
        refine z_iload_n C hl 2 rfl dX7_calls_58 ?_
        refine z_if_ne C 69 dX7_calls_59 (by decide) ⟨by omega, by omega⟩ (fun c_59 => ?_) (fun c_59 => ?_)
        · refine z_iload_n C hl 3 rfl dX7_calls_69 ?_
          refine z_ldc C (z := 16777215) wd_685 (by decide +kernel) dX7_calls_70 ?_
          refine z_iand C (r1 % 16777216) (z_and24 ⟨by omega, by omega⟩) dX7_calls_72 ?_
          exact z_retQi C hP hS hr hlocks rfl (by exact ⟨fun h => (by exfalso; omega), fun _ => ⟨fun h => (by exfalso; omega), fun _ => ⟨C0, k1, k2, (by rw [← k3]; exact k4), (by rw [← k3]; first | (rw [if_pos (by omega)]; rfl) | (rw [if_neg (by omega)]))⟩⟩, k5, k6⟩) dX7_calls_73
        · refine z_iload_n C hl 3 rfl dX7_calls_62 ?_
          refine z_bipush C (by decide +kernel) dX7_calls_63 ?_
          refine z_ishr C (r1 / 2 ^ (24 : Int).toNat) (z_shrb ⟨by omega, by omega⟩ ⟨by decide, by decide⟩) dX7_calls_65 ?_
          refine z_goto C 73 dX7_calls_66 (by decide) ?_
          exact z_retQi C hP hS hr hlocks rfl (by exact ⟨fun h => (by exfalso; omega), fun _ => ⟨fun h => (by exfalso; omega), fun _ => ⟨C0, k1, k2, (by rw [← k3]; exact k4), (by rw [← k3]; first | (rw [if_pos (by omega)]; rfl) | (rw [if_neg (by omega)]))⟩⟩, k5, k6⟩) dX7_calls_73
      · refine z_bipush C (by decide +kernel) dX7_calls_42 ?_
        exact z_retQi C hP hS hr hlocks rfl (by exact ⟨fun h => (by exfalso; omega), fun _ => ⟨fun _ => rfl, fun h => (by exfalso; omega)⟩, ⟨fun _ _ _ _ => rfl, fun _ _ _ => rfl⟩, hcf⟩) dX7_calls_44
    · rw [show (if 0 ≤ wh ∧ wh ≤ 1 then (1 : Int) else 0) = 0 from if_neg b_13]
      refine z_ifF_ne C 22 dX7_calls_16 (by decide) ⟨by decide, by decide⟩ (by decide) ?_
      refine z_bipush C (by decide +kernel) dX7_calls_19 ?_
      exact z_retQi C hP hS hr hlocks rfl (by exact ⟨fun _ => rfl, fun h => (by exfalso; omega), ⟨fun _ _ _ _ => rfl, fun _ _ _ => rfl⟩, hcf⟩) dX7_calls_21
  · rw [show (if 0 ≤ mo ∧ mo ≤ 20 then (1 : Int) else 0) = 0 from if_neg b_4]
    refine z_ifT_eq C 19 dX7_calls_7 (by decide) ⟨by decide, by decide⟩ (by decide) ?_
    refine z_bipush C (by decide +kernel) dX7_calls_19 ?_
    exact z_retQi C hP hS hr hlocks rfl (by exact ⟨fun _ => rfl, fun h => (by exfalso; omega), ⟨fun _ _ _ _ => rfl, fun _ _ _ => rfl⟩, hcf⟩) dX7_calls_21
