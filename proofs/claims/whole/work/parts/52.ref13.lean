theorem jOk_endr {σ τ ρ : zS} {u : Int} (hj : jY σ = jY ρ) (h : jOk σ τ (u + 1) ∨ ∃ q : Int, q ≤ u ∧ jBad σ τ q) (hy : ∀ j : Int, 0 ≤ j → j < u + 1 → jY ρ j = -6) : jOk σ τ (u + 1) := by
  rcases h with h | ⟨q, h1, h2⟩
  · exact h
  · exact absurd (by rw [hj]; exact hy q h2.1 (by omega)) h2.2.2.2.1
def jUf (σ : zS) (i : Int) : Int := if mSec (mHard (mSort (σ 105 i))) (jTF σ i + jTB σ i) = mSec (mHard (mSort (σ 105 i))) (jTF σ i) then 2 ^ i.toNat else 0
theorem jUf_b (σ : zS) (i : Int) (_ : 0 ≤ i) : jUf σ i = 0 ∨ jUf σ i = 2 ^ i.toNat := by
  unfold jUf
  split
  · exact Or.inr rfl
  · exact Or.inl rfl
theorem jYes_b {σ ρ τ : zS} (hse : (0 ≤ σ 100 5 ∧ σ 100 5 ≤ 3) ∧ (0 ≤ σ 100 6 ∧ σ 100 6 ≤ 3)) (hrd : ∀ r : Int, 0 ≤ r → r ≤ 3 → (0 ≤ σ 101 r ∧ σ 101 r ≤ 20) ∧ (0 ≤ σ 102 r ∧ σ 102 r ≤ 10) ∧ (0 ≤ σ 103 r ∧ σ 103 r ≤ 9)) (hho : 5 ≤ σ 100 7 ∧ σ 100 7 ≤ 20) (hpz : 0 ≤ σ 100 8 ∧ σ 100 8 ≤ 99) (hnm : 1 ≤ σ 100 11 ∧ σ 100 11 ≤ 24) (hch : ∀ i : Int, 0 ≤ i → i < 24 → 0 ≤ σ 105 i ∧ σ 105 i ≤ 200) (hy : jYes σ ρ) (hsm : jSame ρ τ) (hok : jOk ρ τ (σ 100 11)) : (0 ≤ τ 100 26 ∧ τ 100 26 ≤ 9) ∧ (0 ≤ τ 100 27 ∧ τ 100 27 ≤ 9) ∧ (0 ≤ τ 100 28 ∧ τ 100 28 ≤ 20) ∧ (0 ≤ τ 100 25 ∧ τ 100 25 ≤ 10000) ∧ (0 ≤ τ 100 29 ∧ τ 100 29 ≤ 10000) ∧ (0 ≤ τ 100 30 ∧ τ 100 30 ≤ 10000) := by
  have e := hy.2.1.1
  exact jOk_b (σ := ρ) (by rw [e 100 (by omega)]; exact hse) (by rw [e 101 (by omega), e 102 (by omega), e 103 (by omega)]; exact hrd) (by rw [e 100 (by omega)]; exact hho) (by rw [e 100 (by omega)]; exact hpz) (fun i h1 h2 => jPl_pl hnm hy.1 hy.2.1 hch i h1 (by omega)) (by omega) hok
set_option maxRecDepth 20000 in
set_option maxHeartbeats 4000000 in
theorem c_X8_ridden {l : Launch} {D : va_G} {Y : Nat → ClassId} {a : Int → Nat} (hI : zI a) (σ : zS) (m0 wh : Int) (r1 : R3 m0) (r2 : R3 wh) (hrb : 0 ≤ σ 100 0 ∧ σ 100 0 ≤ 15) (hse : (0 ≤ σ 100 5 ∧ σ 100 5 ≤ 3) ∧ (0 ≤ σ 100 6 ∧ σ 100 6 ≤ 3)) (hnm : 1 ≤ σ 100 11 ∧ σ 100 11 ≤ 24) (hpm : 0 ≤ σ 100 18 ∧ σ 100 18 ≤ 110) (hpq : ∀ i : Int, 0 ≤ i → i < 110 → 0 ≤ σ 110 i ∧ σ 110 i ≤ 126) (hrd : ∀ r : Int, 0 ≤ r → r ≤ 3 → (0 ≤ σ 101 r ∧ σ 101 r ≤ 20) ∧ (0 ≤ σ 102 r ∧ σ 102 r ≤ 10) ∧ (0 ≤ σ 103 r ∧ σ 103 r ≤ 9)) (hho : 5 ≤ σ 100 7 ∧ σ 100 7 ≤ 20) (hpz : 0 ≤ σ 100 8 ∧ σ 100 8 ≤ 99) (hch : ∀ i : Int, 0 ≤ i → i < 24 → 0 ≤ σ 105 i ∧ σ 105 i ≤ 200) : zMet l yX8_ridden cX8_ridden 3 (some .int) 7 (zPc D Y a σ [.ref (a 100), .int (iI m0), .int (iI wh)]) (zQi D Y a (fun r τ => (¬ (mBit (σ 100 0) (σ 100 5) = 1 ∧ mBit (σ 100 0) (σ 100 6) = 1 ∧ σ 100 5 ≠ σ 100 6) → r = -3) ∧ (mBit (σ 100 0) (σ 100 5) = 1 ∧ mBit (σ 100 0) (σ 100 6) = 1 ∧ σ 100 5 ≠ σ 100 6 → ¬ ((-1 ≤ m0 ∧ m0 ≤ σ 100 11 - 1) ∧ 0 ≤ wh ∧ wh ≤ 3) → r = -2) ∧ (mBit (σ 100 0) (σ 100 5) = 1 ∧ mBit (σ 100 0) (σ 100 6) = 1 ∧ σ 100 5 ≠ σ 100 6 → (-1 ≤ m0 ∧ m0 ≤ σ 100 11 - 1) ∧ 0 ≤ wh ∧ wh ≤ 3 → (jNo σ ∧ r = -5) ∨ ∃ ρ : zS, jYes σ ρ ∧ ∀ M0 : Int, M0 = (if m0 < 0 then σ 100 11 - 1 else m0) → r = (if wh = 0 then jS ρ (M0 + 1).toNat else if wh = 1 then jWF ρ (M0 + 1).toNat else if wh = 2 then jWB ρ (M0 + 1).toNat else jH ρ (M0 + 1).toNat)) ∧ jFr σ τ)) (inA a) := by
  refine z_start rfl (Nat.le_of_ble_eq_true rfl) hI ?_
  intro p e s m below meth c ls C hr hlocks hl hP
  have hS : va_S (inA a) s.heap s.heap [] := va_S.rf
  have hl : lv_has ls 3 [(0, .ref (a 100)), (1, .int (iI m0)), (2, .int (iI wh))] := hl
  skip
  refine z_aload_n C hl 0 rfl dX8_ridden_0 ?_
  refine z_vSi C hP (As := []) lk_X8_206 (c_X8_isNobody hI σ  hrb hse) ob_100 rfl rfl rfl hl.1 rfl (Nat.le_of_ble_eq_true rfl) ⟨Nat.le_of_ble_eq_true rfl, Nat.le_of_ble_eq_true rfl⟩ ⟨Nat.zero_le _, Nat.zero_le _⟩ dX8_ridden_1 ?_
  by_cases b_1 : ¬ (mBit (σ 100 0) (σ 100 5) = 1 ∧ mBit (σ 100 0) (σ 100 6) = 1 ∧ σ 100 5 ≠ σ 100 6)
  · rw [show (if ¬ (mBit (σ 100 0) (σ 100 5) = 1 ∧ mBit (σ 100 0) (σ 100 6) = 1 ∧ σ 100 5 ≠ σ 100 6) then (1 : Int) else 0) = 1 from if_pos b_1]
    refine z_ifF_eq C 10 dX8_ridden_4 (by decide) ⟨by decide, by decide⟩ (by decide) ?_
    refine z_bipush C (by decide +kernel) dX8_ridden_7 ?_
    exact z_retQi C hP hS hr hlocks rfl (by exact ⟨fun _ => rfl, fun h => absurd h b_1, fun h => absurd h b_1, jFr_0 _⟩) dX8_ridden_9
  · rw [show (if ¬ (mBit (σ 100 0) (σ 100 5) = 1 ∧ mBit (σ 100 0) (σ 100 6) = 1 ∧ σ 100 5 ≠ σ 100 6) then (1 : Int) else 0) = 0 from if_neg b_1]
    refine z_ifT_eq C 10 dX8_ridden_4 (by decide) ⟨by decide, by decide⟩ (by decide) ?_
    refine z_iload_n C hl 1 rfl dX8_ridden_10 ?_
    refine z_i2l C ⟨by omega, by omega⟩ dX8_ridden_11 ?_
    refine z_ldc2 C (z := (-1)) wd_452 (by decide +kernel) dX8_ridden_12 ?_
    refine z_aload_n C hl 0 rfl dX8_ridden_15 ?_
    refine zg_X8_81 C hP dX8_ridden_16 ?_
    refine z_iconst C dX8_ridden_19 ?_
    refine z_isub C dX8_ridden_20 ?_
    refine z_i2l C ⟨by omega, by omega⟩ dX8_ridden_21 ?_
    refine z_sSi C hP (As := [.long (jI m0), .long (jI (-1)), .long (jI ((σ 100 11) - 1))]) lk_X8_86 (c_X8_in hI σ m0 (-1) ((σ 100 11) - 1) ⟨by omega, by omega⟩ ⟨by omega, by omega⟩ ⟨by omega, by omega⟩) rfl hl.1 rfl (Nat.le_of_ble_eq_true rfl) ⟨Nat.le_of_ble_eq_true rfl, Nat.le_of_ble_eq_true rfl⟩ ⟨Nat.zero_le _, Nat.zero_le _⟩ dX8_ridden_22 ?_
    by_cases b_22 : (-1) ≤ m0 ∧ m0 ≤ ((σ 100 11) - 1)
    · rw [show (if (-1) ≤ m0 ∧ m0 ≤ ((σ 100 11) - 1) then (1 : Int) else 0) = 1 from if_pos b_22]
      refine z_ifF_eq C 40 dX8_ridden_25 (by decide) ⟨by decide, by decide⟩ (by decide) ?_
      refine z_iload_n C hl 2 rfl dX8_ridden_28 ?_
      refine z_i2l C ⟨by omega, by omega⟩ dX8_ridden_29 ?_
      refine z_lconst C (z := 0) rfl dX8_ridden_30 ?_
      refine z_ldc2 C (z := 3) wd_162 (by decide +kernel) dX8_ridden_31 ?_
      refine z_sSi C hP (As := [.long (jI wh), .long (jI 0), .long (jI 3)]) lk_X8_86 (c_X8_in hI σ wh 0 3 ⟨by omega, by omega⟩ ⟨by omega, by omega⟩ ⟨by omega, by omega⟩) rfl hl.1 rfl (Nat.le_of_ble_eq_true rfl) ⟨Nat.le_of_ble_eq_true rfl, Nat.le_of_ble_eq_true rfl⟩ ⟨Nat.zero_le _, Nat.zero_le _⟩ dX8_ridden_34 ?_
      by_cases b_34 : 0 ≤ wh ∧ wh ≤ 3
      · rw [show (if 0 ≤ wh ∧ wh ≤ 3 then (1 : Int) else 0) = 1 from if_pos b_34]
        refine z_ifT_ne C 43 dX8_ridden_37 (by decide) ⟨by decide, by decide⟩ (by decide) ?_
        refine z_aload_n C hl 0 rfl dX8_ridden_43 ?_
        refine z_vQi hS C hP (As := []) lk_X8_215 (c_X8_isRefused hI σ  hrb hse hnm hpm hpq hrd hho hpz hch) ob_100 rfl rfl rfl hl.1 rfl (Nat.le_of_ble_eq_true rfl) ⟨Nat.le_of_ble_eq_true rfl, Nat.le_of_ble_eq_true rfl⟩ ⟨Nat.zero_le _, Nat.zero_le _⟩ dX8_ridden_44 (fun r1 t2 H locs hp44 hP hS => ?_)
        have ft2 : jFr σ t2 := hp44.2
        have hr01 : r1 = 0 ∨ r1 = 1 := by rcases hp44.1 with h | h; exact Or.inr h.1; exact Or.inl h.1
        refine z_if_eq C 53 dX8_ridden_47 (by decide) ⟨by omega, by omega⟩ (fun c_47 => ?_) (fun c_47 => ?_)
        · obtain ⟨ρ, hy, hsm, hok⟩ : ∃ ρ : zS, jYes σ ρ ∧ jSame ρ t2 ∧ jOk ρ t2 (σ 100 11) := by rcases hp44.1 with h | h; exact absurd h.1 (by omega); exact h.2
          have hj := jSame_j hsm
          refine z_aload_n C hl 0 rfl dX8_ridden_53 ?_
          refine z_iload_n C hl 1 rfl dX8_ridden_54 ?_
          refine z_if_ge C 67 dX8_ridden_55 (by decide) ⟨by omega, by omega⟩ (fun c_55 => ?_) (fun c_55 => ?_)
          · refine z_iload_n C hl 1 rfl dX8_ridden_67 ?_
            obtain ⟨u0, hu0⟩ : ∃ u0 : Int, u0 = m0 := ⟨_, rfl⟩
            refine z_vQv hS C hP (As := [.int (iI m0)]) lk_X8_203 (c_X8_ride hI t2 m0 ⟨by omega, by omega⟩ (by rw [ft2 100 5 (by omega) (by omega), ft2 100 6 (by omega) (by omega)]; exact hse) (fun r h1 h2 => by rw [ft2 101 r (by omega) (by omega), ft2 102 r (by omega) (by omega), ft2 103 r (by omega) (by omega)]; exact hrd r h1 h2) (by rw [ft2 100 7 (by omega) (by omega)]; exact hho) (by rw [ft2 100 8 (by omega) (by omega)]; exact hpz) (fun i h1 h2 => by rw [jSame_c hsm (by decide : (111 : Int) ≠ 100), jSame_c hsm (by decide : (112 : Int) ≠ 100), jSame_c hsm (by decide : (113 : Int) ≠ 100), jSame_c hsm (by decide : (114 : Int) ≠ 100), jSame_c hsm (by decide : (105 : Int) ≠ 100)]; exact jPl_pl hnm hy.1 hy.2.1 hch i h1 (by omega))) ob_100 rfl rfl rfl hl.1 rfl (Nat.le_of_ble_eq_true rfl) ⟨Nat.le_of_ble_eq_true rfl, Nat.le_of_ble_eq_true rfl⟩ ⟨Nat.zero_le _, Nat.zero_le _⟩ dX8_ridden_68 (fun t4 H locs hp68 hP hS => ?_)
            have ft4 : jFr σ t4 := jFr_s ft2 hp68.1
            have hok2 := jOk_endr hj.2.2.2.2.2.2 hp68.2 (fun j h1 h2 => hy.2.2 j h1 (by omega))
            refine z_iload_n C hl 2 rfl dX8_ridden_71 ?_
            refine z_if_ne C 82 dX8_ridden_72 (by decide) ⟨by omega, by omega⟩ (fun c_72 => ?_) (fun c_72 => ?_)
            · refine z_iload_n C hl 2 rfl dX8_ridden_82 ?_
              refine z_iconst C dX8_ridden_83 ?_
              refine z_icmp_ne C 94 dX8_ridden_84 (by decide) ⟨by omega, by omega⟩ ⟨by omega, by omega⟩ (fun c_84 => ?_) (fun c_84 => ?_)
              · refine z_iload_n C hl 2 rfl dX8_ridden_94 ?_
                refine z_iconst C dX8_ridden_95 ?_
                refine z_icmp_ne C 106 dX8_ridden_96 (by decide) ⟨by omega, by omega⟩ ⟨by omega, by omega⟩ (fun c_96 => ?_) (fun c_96 => ?_)
                · refine z_aload_n C hl 0 rfl dX8_ridden_106 ?_
                  refine zg_X8_171 C hP dX8_ridden_107 ?_
                  exact z_retQi C hP hS hr hlocks rfl (by exact ⟨fun h => absurd h b_1, fun _ h => (by exfalso; omega), fun _ _ => Or.inr ⟨ρ, hy, (fun M0 hM => (by have hM2 : M0 = u0 := (by rw [hM]; split <;> omega); rw [hM2, hu0, ← hj.1, ← hj.2.1, ← hj.2.2.1, ← hj.2.2.2.1]; first | (rw [if_pos (by omega)]; exact hok2.2.2.1) | (rw [if_neg (by omega), if_pos (by omega)]; exact hok2.2.2.2.1) | (rw [if_neg (by omega), if_neg (by omega), if_pos (by omega)]; exact hok2.2.2.2.2.1) | (rw [if_neg (by omega), if_neg (by omega), if_neg (by omega)]; exact hok2.2.2.2.2.2.1)))⟩, ft4⟩) dX8_ridden_110
                · refine z_aload_n C hl 0 rfl dX8_ridden_99 ?_
                  refine zg_X8_168 C hP dX8_ridden_100 ?_
                  refine z_goto C 110 dX8_ridden_103 (by decide) ?_
                  exact z_retQi C hP hS hr hlocks rfl (by exact ⟨fun h => absurd h b_1, fun _ h => (by exfalso; omega), fun _ _ => Or.inr ⟨ρ, hy, (fun M0 hM => (by have hM2 : M0 = u0 := (by rw [hM]; split <;> omega); rw [hM2, hu0, ← hj.1, ← hj.2.1, ← hj.2.2.1, ← hj.2.2.2.1]; first | (rw [if_pos (by omega)]; exact hok2.2.2.1) | (rw [if_neg (by omega), if_pos (by omega)]; exact hok2.2.2.2.1) | (rw [if_neg (by omega), if_neg (by omega), if_pos (by omega)]; exact hok2.2.2.2.2.1) | (rw [if_neg (by omega), if_neg (by omega), if_neg (by omega)]; exact hok2.2.2.2.2.2.1)))⟩, ft4⟩) dX8_ridden_110
              · refine z_aload_n C hl 0 rfl dX8_ridden_87 ?_
                refine zg_X8_165 C hP dX8_ridden_88 ?_
                refine z_goto C 110 dX8_ridden_91 (by decide) ?_
                exact z_retQi C hP hS hr hlocks rfl (by exact ⟨fun h => absurd h b_1, fun _ h => (by exfalso; omega), fun _ _ => Or.inr ⟨ρ, hy, (fun M0 hM => (by have hM2 : M0 = u0 := (by rw [hM]; split <;> omega); rw [hM2, hu0, ← hj.1, ← hj.2.1, ← hj.2.2.1, ← hj.2.2.2.1]; first | (rw [if_pos (by omega)]; exact hok2.2.2.1) | (rw [if_neg (by omega), if_pos (by omega)]; exact hok2.2.2.2.1) | (rw [if_neg (by omega), if_neg (by omega), if_pos (by omega)]; exact hok2.2.2.2.2.1) | (rw [if_neg (by omega), if_neg (by omega), if_neg (by omega)]; exact hok2.2.2.2.2.2.1)))⟩, ft4⟩) dX8_ridden_110
            · refine z_aload_n C hl 0 rfl dX8_ridden_75 ?_
              refine zg_X8_162 C hP dX8_ridden_76 ?_
              refine z_goto C 110 dX8_ridden_79 (by decide) ?_
              exact z_retQi C hP hS hr hlocks rfl (by exact ⟨fun h => absurd h b_1, fun _ h => (by exfalso; omega), fun _ _ => Or.inr ⟨ρ, hy, (fun M0 hM => (by have hM2 : M0 = u0 := (by rw [hM]; split <;> omega); rw [hM2, hu0, ← hj.1, ← hj.2.1, ← hj.2.2.1, ← hj.2.2.2.1]; first | (rw [if_pos (by omega)]; exact hok2.2.2.1) | (rw [if_neg (by omega), if_pos (by omega)]; exact hok2.2.2.2.1) | (rw [if_neg (by omega), if_neg (by omega), if_pos (by omega)]; exact hok2.2.2.2.2.1) | (rw [if_neg (by omega), if_neg (by omega), if_neg (by omega)]; exact hok2.2.2.2.2.2.1)))⟩, ft4⟩) dX8_ridden_110
          · refine z_aload_n C hl 0 rfl dX8_ridden_58 ?_
            refine zg_X8_81 C hP dX8_ridden_59 ?_
            rw [show t2 100 11 = σ 100 11 from by rw [ft2 100 11 (by omega) (by omega)]]
            refine z_iconst C dX8_ridden_62 ?_
            refine z_isub C dX8_ridden_63 ?_
            refine z_goto C 68 dX8_ridden_64 (by decide) ?_
            obtain ⟨u0, hu0⟩ : ∃ u0 : Int, u0 = ((σ 100 11) - 1) := ⟨_, rfl⟩
            refine z_vQv hS C hP (As := [.int (iI ((σ 100 11) - 1))]) lk_X8_203 (c_X8_ride hI t2 ((σ 100 11) - 1) ⟨by omega, by omega⟩ (by rw [ft2 100 5 (by omega) (by omega), ft2 100 6 (by omega) (by omega)]; exact hse) (fun r h1 h2 => by rw [ft2 101 r (by omega) (by omega), ft2 102 r (by omega) (by omega), ft2 103 r (by omega) (by omega)]; exact hrd r h1 h2) (by rw [ft2 100 7 (by omega) (by omega)]; exact hho) (by rw [ft2 100 8 (by omega) (by omega)]; exact hpz) (fun i h1 h2 => by rw [jSame_c hsm (by decide : (111 : Int) ≠ 100), jSame_c hsm (by decide : (112 : Int) ≠ 100), jSame_c hsm (by decide : (113 : Int) ≠ 100), jSame_c hsm (by decide : (114 : Int) ≠ 100), jSame_c hsm (by decide : (105 : Int) ≠ 100)]; exact jPl_pl hnm hy.1 hy.2.1 hch i h1 (by omega))) ob_100 rfl rfl rfl hl.1 rfl (Nat.le_of_ble_eq_true rfl) ⟨Nat.le_of_ble_eq_true rfl, Nat.le_of_ble_eq_true rfl⟩ ⟨Nat.zero_le _, Nat.zero_le _⟩ dX8_ridden_68 (fun t6 H locs hp68 hP hS => ?_)
            have ft6 : jFr σ t6 := jFr_s ft2 hp68.1
            have hok2 := jOk_endr hj.2.2.2.2.2.2 hp68.2 (fun j h1 h2 => hy.2.2 j h1 (by omega))
            refine z_iload_n C hl 2 rfl dX8_ridden_71 ?_
            refine z_if_ne C 82 dX8_ridden_72 (by decide) ⟨by omega, by omega⟩ (fun c_72 => ?_) (fun c_72 => ?_)
            · refine z_iload_n C hl 2 rfl dX8_ridden_82 ?_
              refine z_iconst C dX8_ridden_83 ?_
              refine z_icmp_ne C 94 dX8_ridden_84 (by decide) ⟨by omega, by omega⟩ ⟨by omega, by omega⟩ (fun c_84 => ?_) (fun c_84 => ?_)
              · refine z_iload_n C hl 2 rfl dX8_ridden_94 ?_
                refine z_iconst C dX8_ridden_95 ?_
                refine z_icmp_ne C 106 dX8_ridden_96 (by decide) ⟨by omega, by omega⟩ ⟨by omega, by omega⟩ (fun c_96 => ?_) (fun c_96 => ?_)
                · refine z_aload_n C hl 0 rfl dX8_ridden_106 ?_
                  refine zg_X8_171 C hP dX8_ridden_107 ?_
                  exact z_retQi C hP hS hr hlocks rfl (by exact ⟨fun h => absurd h b_1, fun _ h => (by exfalso; omega), fun _ _ => Or.inr ⟨ρ, hy, (fun M0 hM => (by have hM2 : M0 = u0 := (by rw [hM]; split <;> omega); rw [hM2, hu0, ← hj.1, ← hj.2.1, ← hj.2.2.1, ← hj.2.2.2.1]; first | (rw [if_pos (by omega)]; exact hok2.2.2.1) | (rw [if_neg (by omega), if_pos (by omega)]; exact hok2.2.2.2.1) | (rw [if_neg (by omega), if_neg (by omega), if_pos (by omega)]; exact hok2.2.2.2.2.1) | (rw [if_neg (by omega), if_neg (by omega), if_neg (by omega)]; exact hok2.2.2.2.2.2.1)))⟩, ft6⟩) dX8_ridden_110
                · refine z_aload_n C hl 0 rfl dX8_ridden_99 ?_
                  refine zg_X8_168 C hP dX8_ridden_100 ?_
                  refine z_goto C 110 dX8_ridden_103 (by decide) ?_
                  exact z_retQi C hP hS hr hlocks rfl (by exact ⟨fun h => absurd h b_1, fun _ h => (by exfalso; omega), fun _ _ => Or.inr ⟨ρ, hy, (fun M0 hM => (by have hM2 : M0 = u0 := (by rw [hM]; split <;> omega); rw [hM2, hu0, ← hj.1, ← hj.2.1, ← hj.2.2.1, ← hj.2.2.2.1]; first | (rw [if_pos (by omega)]; exact hok2.2.2.1) | (rw [if_neg (by omega), if_pos (by omega)]; exact hok2.2.2.2.1) | (rw [if_neg (by omega), if_neg (by omega), if_pos (by omega)]; exact hok2.2.2.2.2.1) | (rw [if_neg (by omega), if_neg (by omega), if_neg (by omega)]; exact hok2.2.2.2.2.2.1)))⟩, ft6⟩) dX8_ridden_110
              · refine z_aload_n C hl 0 rfl dX8_ridden_87 ?_
                refine zg_X8_165 C hP dX8_ridden_88 ?_
                refine z_goto C 110 dX8_ridden_91 (by decide) ?_
                exact z_retQi C hP hS hr hlocks rfl (by exact ⟨fun h => absurd h b_1, fun _ h => (by exfalso; omega), fun _ _ => Or.inr ⟨ρ, hy, (fun M0 hM => (by have hM2 : M0 = u0 := (by rw [hM]; split <;> omega); rw [hM2, hu0, ← hj.1, ← hj.2.1, ← hj.2.2.1, ← hj.2.2.2.1]; first | (rw [if_pos (by omega)]; exact hok2.2.2.1) | (rw [if_neg (by omega), if_pos (by omega)]; exact hok2.2.2.2.1) | (rw [if_neg (by omega), if_neg (by omega), if_pos (by omega)]; exact hok2.2.2.2.2.1) | (rw [if_neg (by omega), if_neg (by omega), if_neg (by omega)]; exact hok2.2.2.2.2.2.1)))⟩, ft6⟩) dX8_ridden_110
            · refine z_aload_n C hl 0 rfl dX8_ridden_75 ?_
              refine zg_X8_162 C hP dX8_ridden_76 ?_
              refine z_goto C 110 dX8_ridden_79 (by decide) ?_
              exact z_retQi C hP hS hr hlocks rfl (by exact ⟨fun h => absurd h b_1, fun _ h => (by exfalso; omega), fun _ _ => Or.inr ⟨ρ, hy, (fun M0 hM => (by have hM2 : M0 = u0 := (by rw [hM]; split <;> omega); rw [hM2, hu0, ← hj.1, ← hj.2.1, ← hj.2.2.1, ← hj.2.2.2.1]; first | (rw [if_pos (by omega)]; exact hok2.2.2.1) | (rw [if_neg (by omega), if_pos (by omega)]; exact hok2.2.2.2.1) | (rw [if_neg (by omega), if_neg (by omega), if_pos (by omega)]; exact hok2.2.2.2.2.1) | (rw [if_neg (by omega), if_neg (by omega), if_neg (by omega)]; exact hok2.2.2.2.2.2.1)))⟩, ft6⟩) dX8_ridden_110
        · refine z_bipush C (by decide +kernel) dX8_ridden_50 ?_
          exact z_retQi C hP hS hr hlocks rfl (by exact ⟨fun h => absurd h b_1, fun _ h => (by exfalso; omega), fun _ _ => Or.inl ⟨(by rcases hp44.1 with h | h; exact h.2; exact absurd h.1 (by omega)), rfl⟩, ft2⟩) dX8_ridden_52
      · rw [show (if 0 ≤ wh ∧ wh ≤ 3 then (1 : Int) else 0) = 0 from if_neg b_34]
        refine z_ifF_ne C 43 dX8_ridden_37 (by decide) ⟨by decide, by decide⟩ (by decide) ?_
        refine z_bipush C (by decide +kernel) dX8_ridden_40 ?_
        exact z_retQi C hP hS hr hlocks rfl (by exact ⟨fun h => absurd h b_1, fun _ _ => rfl, fun _ h => (by exfalso; omega), jFr_0 _⟩) dX8_ridden_42
    · rw [show (if (-1) ≤ m0 ∧ m0 ≤ ((σ 100 11) - 1) then (1 : Int) else 0) = 0 from if_neg b_22]
      refine z_ifT_eq C 40 dX8_ridden_25 (by decide) ⟨by decide, by decide⟩ (by decide) ?_
      refine z_bipush C (by decide +kernel) dX8_ridden_40 ?_
      exact z_retQi C hP hS hr hlocks rfl (by exact ⟨fun h => absurd h b_1, fun _ _ => rfl, fun _ h => (by exfalso; omega), jFr_0 _⟩) dX8_ridden_42

set_option maxRecDepth 20000 in
set_option maxHeartbeats 4000000 in
theorem c_X8_lowest {l : Launch} {D : va_G} {Y : Nat → ClassId} {a : Int → Nat} (hI : zI a) (σ : zS) (up lo part : Int) (h1 : 0 ≤ up ∧ up ≤ 20000000000000000) (h2 : 1 ≤ lo ∧ lo ≤ 2000000000000) (h3 : 0 ≤ part ∧ part ≤ 1) : zMet l yX8_lowest cX8_lowest 11 (some .long) 0 (zPc D Y a σ [.long (jI up), .long (jI lo), .int (iI part)]) (zSl (mFrac up lo part)) zNo := by
  refine z_start rfl (Nat.le_of_ble_eq_true rfl) hI ?_
  intro p e s m below meth c ls C hr hlocks hl hP
  have hl : lv_has ls 11 [(0, .long (jI up)), (2, .long (jI lo)), (4, .int (iI part))] := hl
  refine z_lload_n C hl 1 rfl dX8_lowest_0 ?_
  refine z_lstore C [1, 2, 3, 0] [(0, .long (jI up)), (2, .long (jI lo)), (4, .int (iI part)), (5, .long (jI lo))] hl (by decide) rfl dX8_lowest_1 (fun ls hl => ?_)
  refine z_lload_n C hl 0 rfl dX8_lowest_3 ?_
  refine z_lstore C [1, 2, 3, 4, 0] [(0, .long (jI up)), (2, .long (jI lo)), (4, .int (iI part)), (5, .long (jI lo)), (7, .long (jI up))] hl (by decide) rfl dX8_lowest_4 (fun ls hl => ?_)
  have L_6 : ∀ (n : Nat) (x : Int) (y : Int) (ls : Array Slot), (1 ≤ x ∧ x ≤ 20000000000000000) → (0 ≤ y ∧ y ≤ 20000000000000000) → (Nat.gcd y.toNat x.toNat = Nat.gcd up.toNat lo.toNat) → (y.toNat) < n → lv_has ls 11 [(0, .long (jI up)), (2, .long (jI lo)), (4, .int (iI part)), (5, .long (jI x)), (7, .long (jI y))] → W p l e (zR 0) s m ([.long (jI up), .long (jI lo), .int (iI part)] : List Value).toArray below meth c s.heap [] 0 0 (MQ below (zSl (mFrac up lo part)) ([.long (jI up), .long (jI lo), .int (iI part)] : List Value).toArray s 0 0 zNo) (F0 m 6 ls []) := by
    intro n
    induction n with
    | zero =>
      intros; omega
    | succ n ih_6 =>
      intro x y ls ia ib ig hm hl
      have hem : 0 < y → 0 ≤ x % y ∧ x % y < y := fun h => ⟨Int.emod_nonneg _ (by omega), Int.emod_lt_of_pos _ h⟩
      refine z_lload C hl 4 rfl dX8_lowest_6 ?_
      refine z_lconst C (z := 0) rfl dX8_lowest_8 ?_
      refine z_lif_eq C 31 dX8_lowest_9 dX8_lowest_10 (by decide) ⟨by omega, by omega⟩ ⟨by omega, by omega⟩ (fun c_10 => ?_) (fun c_10 => ?_)
      · refine z_iload C hl 2 rfl dX8_lowest_31 ?_
        refine z_if_ne C 43 dX8_lowest_33 (by decide) ⟨by omega, by omega⟩ (fun c_33 => ?_) (fun c_33 => ?_)
        · refine z_lload_n C hl 1 rfl dX8_lowest_43 ?_
          refine z_lload C hl 3 rfl dX8_lowest_44 ?_
          refine z_ldiv C ⟨by omega, by omega, by omega, by omega⟩ dX8_lowest_46 ?_
          exact z_retSl C hr hlocks (by have e0 : y = 0 := (by omega); subst e0; have eg : (Nat.gcd up.toNat lo.toNat : Int) = x := (by rw [← ig]; simp; omega); unfold mFrac; rw [eg]; first | (rw [if_pos (by omega)]; done) | (rw [if_neg (by omega)]; done)) dX8_lowest_47
        · refine z_lload_n C hl 0 rfl dX8_lowest_36 ?_
          refine z_lload C hl 3 rfl dX8_lowest_37 ?_
          refine z_ldiv C ⟨by omega, by omega, by omega, by omega⟩ dX8_lowest_39 ?_
          refine z_goto C 47 dX8_lowest_40 (by decide) ?_
          exact z_retSl C hr hlocks (by have e0 : y = 0 := (by omega); subst e0; have eg : (Nat.gcd up.toNat lo.toNat : Int) = x := (by rw [← ig]; simp; omega); unfold mFrac; rw [eg]; first | (rw [if_pos (by omega)]; done) | (rw [if_neg (by omega)]; done)) dX8_lowest_47
      · refine z_lload C hl 3 rfl dX8_lowest_13 ?_
        refine z_lload C hl 4 rfl dX8_lowest_15 ?_
        refine z_lrem C ⟨by omega, by omega, by omega, by omega⟩ dX8_lowest_17 ?_
        refine z_topl (fun x1 hx1 => ?_)
        refine z_lstore C [1, 2, 3, 4, 5, 0] [(0, .long (jI up)), (2, .long (jI lo)), (4, .int (iI part)), (5, .long (jI x)), (7, .long (jI y)), (9, .long (jI x1))] hl (by decide) rfl dX8_lowest_18 (fun ls hl => ?_)
        refine z_lload C hl 4 rfl dX8_lowest_20 ?_
        refine z_lstore C [1, 2, 3, 0, 4, 5] [(0, .long (jI up)), (2, .long (jI lo)), (4, .int (iI part)), (5, .long (jI y)), (7, .long (jI y)), (9, .long (jI x1))] hl (by decide) rfl dX8_lowest_22 (fun ls hl => ?_)
        refine z_lload C hl 5 rfl dX8_lowest_24 ?_
        refine z_lstore C [1, 2, 3, 4, 0, 5] [(0, .long (jI up)), (2, .long (jI lo)), (4, .int (iI part)), (5, .long (jI y)), (7, .long (jI x1)), (9, .long (jI x1))] hl (by decide) rfl dX8_lowest_26 (fun ls hl => ?_)
        refine z_goto C 6 dX8_lowest_28 (by decide) ?_
        exact ih_6 y x1 ls (by omega) (by have := hem (by omega); omega) (by have hx2 := euc_g (x := x) (y := y) (by omega) (by omega); rw [hx1] at hx2; rw [hx2]; exact ig) (by have := hem (by omega); omega) (lv_sub hl [0, 1, 2, 3, 4] rfl)
  exact L_6 _ lo up ls (by omega) (by omega) (by rfl) (Nat.lt_succ_self _) (lv_sub hl [0, 1, 2, 3, 4] rfl)

set_option maxRecDepth 20000 in
set_option maxHeartbeats 4000000 in
theorem c_X8_share {l : Launch} {D : va_G} {Y : Nat → ClassId} {a : Int → Nat} (hI : zI a) (σ : zS) (pt : Int) (r1 : R3 pt) (hrb : 0 ≤ σ 100 0 ∧ σ 100 0 ≤ 15) (hse : (0 ≤ σ 100 5 ∧ σ 100 5 ≤ 3) ∧ (0 ≤ σ 100 6 ∧ σ 100 6 ≤ 3)) (hnm : 1 ≤ σ 100 11 ∧ σ 100 11 ≤ 24) (hpm : 0 ≤ σ 100 18 ∧ σ 100 18 ≤ 110) (hpq : ∀ i : Int, 0 ≤ i → i < 110 → 0 ≤ σ 110 i ∧ σ 110 i ≤ 126) (hrd : ∀ r : Int, 0 ≤ r → r ≤ 3 → (0 ≤ σ 101 r ∧ σ 101 r ≤ 20) ∧ (0 ≤ σ 102 r ∧ σ 102 r ≤ 10) ∧ (0 ≤ σ 103 r ∧ σ 103 r ≤ 9)) (hho : 5 ≤ σ 100 7 ∧ σ 100 7 ≤ 20) (hpz : 0 ≤ σ 100 8 ∧ σ 100 8 ≤ 99) (hch : ∀ i : Int, 0 ≤ i → i < 24 → 0 ≤ σ 105 i ∧ σ 105 i ≤ 200) : zMet l yX8_share cX8_share 3 (some .long) 7 (zPc D Y a σ [.ref (a 100), .int (iI pt)]) (zQl D Y a (fun r τ => (¬ (mBit (σ 100 0) (σ 100 5) = 1 ∧ mBit (σ 100 0) (σ 100 6) = 1 ∧ σ 100 5 ≠ σ 100 6) → r = (-1000000000000000003)) ∧ (mBit (σ 100 0) (σ 100 5) = 1 ∧ mBit (σ 100 0) (σ 100 6) = 1 ∧ σ 100 5 ≠ σ 100 6 → ¬ (0 ≤ pt ∧ pt ≤ 1) → r = (-1000000000000000002)) ∧ (mBit (σ 100 0) (σ 100 5) = 1 ∧ mBit (σ 100 0) (σ 100 6) = 1 ∧ σ 100 5 ≠ σ 100 6 → 0 ≤ pt ∧ pt ≤ 1 → (jNo σ ∧ r = (-1000000000000000005)) ∨ ∃ ρ : zS, jYes σ ρ ∧ r = mFrac (mSum (jTF ρ) (σ 100 11).toNat) (if mSum (jTF ρ) (σ 100 11).toNat + mSum (jTB ρ) (σ 100 11).toNat = 0 then 1 else mSum (jTF ρ) (σ 100 11).toNat + mSum (jTB ρ) (σ 100 11).toNat) pt) ∧ jFr σ τ)) (inA a) := by
  refine z_start rfl (Nat.le_of_ble_eq_true rfl) hI ?_
  intro p e s m below meth c ls C hr hlocks hl hP
  have hS : va_S (inA a) s.heap s.heap [] := va_S.rf
  have hl : lv_has ls 3 [(0, .ref (a 100)), (1, .int (iI pt))] := hl
  skip
  refine z_aload_n C hl 0 rfl dX8_share_0 ?_
  refine z_vSi C hP (As := []) lk_X8_206 (c_X8_isNobody hI σ  hrb hse) ob_100 rfl rfl rfl hl.1 rfl (Nat.le_of_ble_eq_true rfl) ⟨Nat.le_of_ble_eq_true rfl, Nat.le_of_ble_eq_true rfl⟩ ⟨Nat.zero_le _, Nat.zero_le _⟩ dX8_share_1 ?_
  by_cases b_1 : ¬ (mBit (σ 100 0) (σ 100 5) = 1 ∧ mBit (σ 100 0) (σ 100 6) = 1 ∧ σ 100 5 ≠ σ 100 6)
  · rw [show (if ¬ (mBit (σ 100 0) (σ 100 5) = 1 ∧ mBit (σ 100 0) (σ 100 6) = 1 ∧ σ 100 5 ≠ σ 100 6) then (1 : Int) else 0) = 1 from if_pos b_1]
    refine z_ifF_eq C 11 dX8_share_4 (by decide) ⟨by decide, by decide⟩ (by decide) ?_
    refine z_ldc2 C (z := (-1000000000000000003)) wd_473 (by decide +kernel) dX8_share_7 ?_
    exact z_retQl C hP hS hr hlocks (by exact ⟨fun _ => rfl, fun h => absurd h b_1, fun h => absurd h b_1, jFr_0 _⟩) dX8_share_10
  · rw [show (if ¬ (mBit (σ 100 0) (σ 100 5) = 1 ∧ mBit (σ 100 0) (σ 100 6) = 1 ∧ σ 100 5 ≠ σ 100 6) then (1 : Int) else 0) = 0 from if_neg b_1]
    refine z_ifT_eq C 11 dX8_share_4 (by decide) ⟨by decide, by decide⟩ (by decide) ?_
    refine z_iload_n C hl 1 rfl dX8_share_11 ?_
    refine z_i2l C ⟨by omega, by omega⟩ dX8_share_12 ?_
    refine z_lconst C (z := 0) rfl dX8_share_13 ?_
    refine z_lconst C (z := 1) rfl dX8_share_14 ?_
    refine z_sSi C hP (As := [.long (jI pt), .long (jI 0), .long (jI 1)]) lk_X8_86 (c_X8_in hI σ pt 0 1 ⟨by omega, by omega⟩ ⟨by omega, by omega⟩ ⟨by omega, by omega⟩) rfl hl.1 rfl (Nat.le_of_ble_eq_true rfl) ⟨Nat.le_of_ble_eq_true rfl, Nat.le_of_ble_eq_true rfl⟩ ⟨Nat.zero_le _, Nat.zero_le _⟩ dX8_share_15 ?_
    by_cases b_15 : 0 ≤ pt ∧ pt ≤ 1
    · rw [show (if 0 ≤ pt ∧ pt ≤ 1 then (1 : Int) else 0) = 1 from if_pos b_15]
      refine z_ifT_ne C 25 dX8_share_18 (by decide) ⟨by decide, by decide⟩ (by decide) ?_
      refine z_aload_n C hl 0 rfl dX8_share_25 ?_
      refine z_vQi hS C hP (As := []) lk_X8_215 (c_X8_isRefused hI σ  hrb hse hnm hpm hpq hrd hho hpz hch) ob_100 rfl rfl rfl hl.1 rfl (Nat.le_of_ble_eq_true rfl) ⟨Nat.le_of_ble_eq_true rfl, Nat.le_of_ble_eq_true rfl⟩ ⟨Nat.zero_le _, Nat.zero_le _⟩ dX8_share_26 (fun r1 t2 H locs hp26 hP hS => ?_)
      have ft2 : jFr σ t2 := hp26.2
      have hr01 : r1 = 0 ∨ r1 = 1 := by rcases hp26.1 with h | h; exact Or.inr h.1; exact Or.inl h.1
      refine z_if_eq C 36 dX8_share_29 (by decide) ⟨by omega, by omega⟩ (fun c_29 => ?_) (fun c_29 => ?_)
      · obtain ⟨ρ, hy, hsm, hok⟩ : ∃ ρ : zS, jYes σ ρ ∧ jSame ρ t2 ∧ jOk ρ t2 (σ 100 11) := by rcases hp26.1 with h | h; exact absurd h.1 (by omega); exact h.2
        have hj := jSame_j hsm
        have hjb := jYes_b hse hrd hho hpz hnm hch hy hsm hok
        refine z_aload_n C hl 0 rfl dX8_share_36 ?_
        refine zg_X8_174 C hP dX8_share_37 ?_
        refine z_aload_n C hl 0 rfl dX8_share_40 ?_
        refine zg_X8_177 C hP dX8_share_41 ?_
        refine z_iadd C dX8_share_44 ?_
        refine z_topi (fun x3 hx3 => ?_)
        refine z_istore_n C [1, 2, 0] [(0, .ref (a 100)), (1, .int (iI pt)), (2, .int (iI x3))] hl (by decide) rfl dX8_share_45 (fun ls hl => ?_)
        refine z_aload_n C hl 0 rfl dX8_share_46 ?_
        refine zg_X8_174 C hP dX8_share_47 ?_
        refine z_i2l C ⟨by omega, by omega⟩ dX8_share_50 ?_
        refine z_iload_n C hl 2 rfl dX8_share_51 ?_
        refine z_if_ne C 59 dX8_share_52 (by decide) ⟨by omega, by omega⟩ (fun c_52 => ?_) (fun c_52 => ?_)
        · refine z_iload_n C hl 2 rfl dX8_share_59 ?_
          refine z_i2l C ⟨by omega, by omega⟩ dX8_share_60 ?_
          refine z_iload_n C hl 1 rfl dX8_share_61 ?_
          refine z_sSl C hP (As := [.long (jI (t2 100 29)), .long (jI x3), .int (iI pt)]) lk_X8_224 (c_X8_lowest hI t2 (t2 100 29) x3 pt (by omega) (by omega) (by omega)) rfl hl.1 rfl (Nat.le_of_ble_eq_true rfl) ⟨Nat.le_of_ble_eq_true rfl, Nat.le_of_ble_eq_true rfl⟩ ⟨Nat.zero_le _, Nat.zero_le _⟩ dX8_share_62 ?_
          exact z_retQl C hP hS hr hlocks (by exact ⟨fun h => absurd h b_1, fun _ h => (by exfalso; omega), fun _ _ => Or.inr ⟨ρ, hy, (by rw [← hok.2.2.2.2.2.2.1, ← hok.2.2.2.2.2.2.2.1]; first | (rw [if_pos (by omega)]; done) | (rw [if_neg (by omega), hx3]; done))⟩, ft2⟩) dX8_share_65
        · refine z_lconst C (z := 1) rfl dX8_share_55 ?_
          refine z_goto C 61 dX8_share_56 (by decide) ?_
          refine z_iload_n C hl 1 rfl dX8_share_61 ?_
          refine z_sSl C hP (As := [.long (jI (t2 100 29)), .long (jI 1), .int (iI pt)]) lk_X8_224 (c_X8_lowest hI t2 (t2 100 29) 1 pt (by omega) (by omega) (by omega)) rfl hl.1 rfl (Nat.le_of_ble_eq_true rfl) ⟨Nat.le_of_ble_eq_true rfl, Nat.le_of_ble_eq_true rfl⟩ ⟨Nat.zero_le _, Nat.zero_le _⟩ dX8_share_62 ?_
          exact z_retQl C hP hS hr hlocks (by exact ⟨fun h => absurd h b_1, fun _ h => (by exfalso; omega), fun _ _ => Or.inr ⟨ρ, hy, (by rw [← hok.2.2.2.2.2.2.1, ← hok.2.2.2.2.2.2.2.1]; first | (rw [if_pos (by omega)]; done) | (rw [if_neg (by omega), hx3]; done))⟩, ft2⟩) dX8_share_65
      · refine z_ldc2 C (z := (-1000000000000000005)) wd_475 (by decide +kernel) dX8_share_32 ?_
        exact z_retQl C hP hS hr hlocks (by exact ⟨fun h => absurd h b_1, fun _ h => (by exfalso; omega), fun _ _ => Or.inl ⟨(by rcases hp26.1 with h | h; exact h.2; exact absurd h.1 (by omega)), rfl⟩, ft2⟩) dX8_share_35
    · rw [show (if 0 ≤ pt ∧ pt ≤ 1 then (1 : Int) else 0) = 0 from if_neg b_15]
      refine z_ifF_ne C 25 dX8_share_18 (by decide) ⟨by decide, by decide⟩ (by decide) ?_
      refine z_ldc2 C (z := (-1000000000000000002)) wd_474 (by decide +kernel) dX8_share_21 ?_
      exact z_retQl C hP hS hr hlocks (by exact ⟨fun h => absurd h b_1, fun _ _ => rfl, fun _ h => (by exfalso; omega), jFr_0 _⟩) dX8_share_24

set_option maxRecDepth 20000 in
set_option maxHeartbeats 4000000 in
theorem c_X8_unseen {l : Launch} {D : va_G} {Y : Nat → ClassId} {a : Int → Nat} (hI : zI a) (σ : zS)  (hrb : 0 ≤ σ 100 0 ∧ σ 100 0 ≤ 15) (hse : (0 ≤ σ 100 5 ∧ σ 100 5 ≤ 3) ∧ (0 ≤ σ 100 6 ∧ σ 100 6 ≤ 3)) (hnm : 1 ≤ σ 100 11 ∧ σ 100 11 ≤ 24) (hpm : 0 ≤ σ 100 18 ∧ σ 100 18 ≤ 110) (hpq : ∀ i : Int, 0 ≤ i → i < 110 → 0 ≤ σ 110 i ∧ σ 110 i ≤ 126) (hrd : ∀ r : Int, 0 ≤ r → r ≤ 3 → (0 ≤ σ 101 r ∧ σ 101 r ≤ 20) ∧ (0 ≤ σ 102 r ∧ σ 102 r ≤ 10) ∧ (0 ≤ σ 103 r ∧ σ 103 r ≤ 9)) (hho : 5 ≤ σ 100 7 ∧ σ 100 7 ≤ 20) (hpz : 0 ≤ σ 100 8 ∧ σ 100 8 ≤ 99) (hch : ∀ i : Int, 0 ≤ i → i < 24 → 0 ≤ σ 105 i ∧ σ 105 i ≤ 200) : zMet l yX8_unseen cX8_unseen 6 (some .int) 7 (zPc D Y a σ [.ref (a 100)]) (zQi D Y a (fun r τ => (¬ (mBit (σ 100 0) (σ 100 5) = 1 ∧ mBit (σ 100 0) (σ 100 6) = 1 ∧ σ 100 5 ≠ σ 100 6) → r = -3) ∧ (mBit (σ 100 0) (σ 100 5) = 1 ∧ mBit (σ 100 0) (σ 100 6) = 1 ∧ σ 100 5 ≠ σ 100 6 → (jNo σ ∧ r = -5) ∨ ∃ ρ : zS, jYes σ ρ ∧ r = mSum (jUf ρ) (σ 100 11).toNat) ∧ jFr σ τ)) (inA a) := by
  refine z_start rfl (Nat.le_of_ble_eq_true rfl) hI ?_
  intro p e s m below meth c ls C hr hlocks hl hP
  have hS : va_S (inA a) s.heap s.heap [] := va_S.rf
  have hl : lv_has ls 6 [(0, .ref (a 100))] := hl
  skip
  refine z_aload_n C hl 0 rfl dX8_unseen_0 ?_
  refine z_vSi C hP (As := []) lk_X8_206 (c_X8_isNobody hI σ  hrb hse) ob_100 rfl rfl rfl hl.1 rfl (Nat.le_of_ble_eq_true rfl) ⟨Nat.le_of_ble_eq_true rfl, Nat.le_of_ble_eq_true rfl⟩ ⟨Nat.zero_le _, Nat.zero_le _⟩ dX8_unseen_1 ?_
  by_cases b_1 : ¬ (mBit (σ 100 0) (σ 100 5) = 1 ∧ mBit (σ 100 0) (σ 100 6) = 1 ∧ σ 100 5 ≠ σ 100 6)
  · rw [show (if ¬ (mBit (σ 100 0) (σ 100 5) = 1 ∧ mBit (σ 100 0) (σ 100 6) = 1 ∧ σ 100 5 ≠ σ 100 6) then (1 : Int) else 0) = 1 from if_pos b_1]
    refine z_ifF_eq C 10 dX8_unseen_4 (by decide) ⟨by decide, by decide⟩ (by decide) ?_
    refine z_bipush C (by decide +kernel) dX8_unseen_7 ?_
    exact z_retQi C hP hS hr hlocks rfl (by exact ⟨fun _ => rfl, fun h => absurd h b_1, jFr_0 _⟩) dX8_unseen_9
  · rw [show (if ¬ (mBit (σ 100 0) (σ 100 5) = 1 ∧ mBit (σ 100 0) (σ 100 6) = 1 ∧ σ 100 5 ≠ σ 100 6) then (1 : Int) else 0) = 0 from if_neg b_1]
    refine z_ifT_eq C 10 dX8_unseen_4 (by decide) ⟨by decide, by decide⟩ (by decide) ?_
    refine z_aload_n C hl 0 rfl dX8_unseen_10 ?_
    refine z_vQi hS C hP (As := []) lk_X8_215 (c_X8_isRefused hI σ  hrb hse hnm hpm hpq hrd hho hpz hch) ob_100 rfl rfl rfl hl.1 rfl (Nat.le_of_ble_eq_true rfl) ⟨Nat.le_of_ble_eq_true rfl, Nat.le_of_ble_eq_true rfl⟩ ⟨Nat.zero_le _, Nat.zero_le _⟩ dX8_unseen_11 (fun r1 t2 H locs hp11 hP hS => ?_)
    have ft2 : jFr σ t2 := hp11.2
    have hr01 : r1 = 0 ∨ r1 = 1 := by rcases hp11.1 with h | h; exact Or.inr h.1; exact Or.inl h.1
    refine z_if_eq C 20 dX8_unseen_14 (by decide) ⟨by omega, by omega⟩ (fun c_14 => ?_) (fun c_14 => ?_)
    · obtain ⟨ρ, hy, hsm, hok⟩ : ∃ ρ : zS, jYes σ ρ ∧ jSame ρ t2 ∧ jOk ρ t2 (σ 100 11) := by rcases hp11.1 with h | h; exact absurd h.1 (by omega); exact h.2
      have hj := jSame_j hsm
      have hjb := jYes_b hse hrd hho hpz hnm hch hy hsm hok
      have gse := (show (0 ≤ t2 100 5 ∧ t2 100 5 ≤ 3) ∧ (0 ≤ t2 100 6 ∧ t2 100 6 ≤ 3) by rw [ft2 100 5 (by omega) (by omega), ft2 100 6 (by omega) (by omega)]; exact hse)
      have grd : ∀ r : Int, 0 ≤ r → r ≤ 3 → (0 ≤ t2 101 r ∧ t2 101 r ≤ 20) ∧ (0 ≤ t2 102 r ∧ t2 102 r ≤ 10) ∧ (0 ≤ t2 103 r ∧ t2 103 r ≤ 9) := (fun r h1 h2 => by rw [ft2 101 r (by omega) (by omega), ft2 102 r (by omega) (by omega), ft2 103 r (by omega) (by omega)]; exact hrd r h1 h2)
      have gnm : t2 100 11 = σ 100 11 := ft2 100 11 (by omega) (by omega)
      have gpl : ∀ i : Int, 0 ≤ i → i < t2 100 11 → ((t2 111 i = 0 ∨ t2 111 i = 1) ∧ (0 ≤ t2 112 i ∧ t2 112 i ≤ 4) ∧ (0 ≤ t2 113 i ∧ t2 113 i ≤ 4) ∧ (4 ≤ t2 114 i ∧ t2 114 i ≤ 10)) ∧ 0 ≤ t2 105 i ∧ t2 105 i ≤ 200 := (fun i h1 h2 => by rw [jSame_c hsm (by decide : (111 : Int) ≠ 100), jSame_c hsm (by decide : (112 : Int) ≠ 100), jSame_c hsm (by decide : (113 : Int) ≠ 100), jSame_c hsm (by decide : (114 : Int) ≠ 100), jSame_c hsm (by decide : (105 : Int) ≠ 100)]; exact jPl_pl hnm hy.1 hy.2.1 hch i h1 (by omega))
      have gu : jUf t2 = jUf ρ := by funext i; unfold jUf; rw [hj.2.2.2.2.1, hj.2.2.2.2.2.1, jSame_c hsm (by decide : (105 : Int) ≠ 100)]
      refine z_iconst C dX8_unseen_20 ?_
      refine z_istore_n C [1, 0] [(0, .ref (a 100)), (1, .int (iI 0))] hl (by decide) rfl dX8_unseen_21 (fun ls hl => ?_)
      refine z_iconst C dX8_unseen_22 ?_
      refine z_istore_n C [1, 2, 0] [(0, .ref (a 100)), (1, .int (iI 0)), (2, .int (iI 0))] hl (by decide) rfl dX8_unseen_23 (fun ls hl => ?_)
      have L_24 : ∀ (n : Nat) (bits : Int) (i : Int) (τ : zS) (H : Heap) (locs : List Loc) (hP : GP D Y a τ H) (hS : va_S (inA a) s.heap H locs) (ls : Array Slot), (t2 = τ) → (0 ≤ i ∧ i ≤ σ 100 11) → (bits = mSum (jUf t2) i.toNat) → ((σ 100 11 - i).toNat) < n → lv_has ls 6 [(0, .ref (a 100)), (1, .int (iI bits)), (2, .int (iI i))] → W p l e (zR 7) s m ([.ref (a 100)] : List Value).toArray below meth c H locs 0 0 (MQ below (zQi D Y a (fun r τ => (¬ (mBit (σ 100 0) (σ 100 5) = 1 ∧ mBit (σ 100 0) (σ 100 6) = 1 ∧ σ 100 5 ≠ σ 100 6) → r = -3) ∧ (mBit (σ 100 0) (σ 100 5) = 1 ∧ mBit (σ 100 0) (σ 100 6) = 1 ∧ σ 100 5 ≠ σ 100 6 → (jNo σ ∧ r = -5) ∨ ∃ ρ : zS, jYes σ ρ ∧ r = mSum (jUf ρ) (σ 100 11).toNat) ∧ jFr σ τ)) ([.ref (a 100)] : List Value).toArray s 0 0 (inA a)) (F0 m 24 ls []) := by
        intro n
        induction n with
        | zero =>
          intros; omega
        | succ n ih_24 =>
          intro bits i τ H locs hP hS ls iT ii iv hm hl
          subst iT
          have hbs := mBS_b (jUf_b t2) i.toNat
          rw [← iv] at hbs
          have htl := two_le 0 i.toNat (by omega)
          refine z_iload_n C hl 2 rfl dX8_unseen_24 ?_
          refine z_aload_n C hl 0 rfl dX8_unseen_25 ?_
          refine zg_X8_81 C hP dX8_unseen_26 ?_
          refine z_icmp_ge C 135 dX8_unseen_29 (by decide) ⟨by omega, by omega⟩ ⟨by omega, by omega⟩ (fun c_29 => ?_) (fun c_29 => ?_)
          · refine z_iload_n C hl 1 rfl dX8_unseen_135 ?_
            exact z_retQi C hP hS hr hlocks rfl (by exact ⟨fun h => absurd h b_1, fun _ => Or.inr ⟨ρ, hy, (by rw [iv, gu, show i = σ 100 11 from (by omega)])⟩, ft2⟩) dX8_unseen_136
          · have hpi := gpl i ii.1 (by omega)
            refine z_aload_n C hl 0 rfl dX8_unseen_32 ?_
            refine z_aload_n C hl 0 rfl dX8_unseen_33 ?_
            refine zg_X8_113 C hP dX8_unseen_34 ?_
            refine z_aload_n C hl 0 rfl dX8_unseen_37 ?_
            refine zg_X8_43 C hP dX8_unseen_38 ?_
            refine z_iload_n C hl 2 rfl dX8_unseen_41 ?_
            refine z_iald C hP ia_112 ⟨by omega, by omega⟩ dX8_unseen_42 ?_
            refine z_aload_n C hl 0 rfl dX8_unseen_43 ?_
            refine zg_X8_49 C hP dX8_unseen_44 ?_
            refine z_iload_n C hl 2 rfl dX8_unseen_47 ?_
            refine z_iald C hP ia_114 ⟨by omega, by omega⟩ dX8_unseen_48 ?_
            refine z_vSi C hP (As := [.int (iI (t2 100 5)), .int (iI (t2 112 i)), .int (iI (t2 114 i))]) lk_X8_152 (c_X8_treadOf hI t2 (t2 100 5) (t2 112 i) (t2 114 i) gse.1 (grd (t2 100 5) gse.1.1 gse.1.2).1 (grd (t2 100 5) gse.1.1 gse.1.2).2.1 hpi.1.2.1 hpi.1.2.2.2) ob_100 rfl rfl rfl hl.1 rfl (Nat.le_of_ble_eq_true rfl) ⟨Nat.le_of_ble_eq_true rfl, Nat.le_of_ble_eq_true rfl⟩ ⟨Nat.zero_le _, Nat.zero_le _⟩ dX8_unseen_49 ?_
            have tb0 := mTread_b (grd (t2 100 5) gse.1.1 gse.1.2).1 (grd (t2 100 5) gse.1.1 gse.1.2).2.1 hpi.1.2.1 hpi.1.2.2.2
            refine z_topi (fun x3 hx3 => ?_)
            refine z_istore_n C [1, 2, 3, 0] [(0, .ref (a 100)), (1, .int (iI bits)), (2, .int (iI i)), (3, .int (iI x3))] hl (by decide) rfl dX8_unseen_52 (fun ls hl => ?_)
            refine z_aload_n C hl 0 rfl dX8_unseen_53 ?_
            refine z_aload_n C hl 0 rfl dX8_unseen_54 ?_
            refine zg_X8_68 C hP dX8_unseen_55 ?_
            refine z_aload_n C hl 0 rfl dX8_unseen_58 ?_
            refine zg_X8_46 C hP dX8_unseen_59 ?_
            refine z_iload_n C hl 2 rfl dX8_unseen_62 ?_
            refine z_iald C hP ia_113 ⟨by omega, by omega⟩ dX8_unseen_63 ?_
            refine z_aload_n C hl 0 rfl dX8_unseen_64 ?_
            refine zg_X8_49 C hP dX8_unseen_65 ?_
            refine z_iload_n C hl 2 rfl dX8_unseen_68 ?_
            refine z_iald C hP ia_114 ⟨by omega, by omega⟩ dX8_unseen_69 ?_
            refine z_vSi C hP (As := [.int (iI (t2 100 6)), .int (iI (t2 113 i)), .int (iI (t2 114 i))]) lk_X8_152 (c_X8_treadOf hI t2 (t2 100 6) (t2 113 i) (t2 114 i) gse.2 (grd (t2 100 6) gse.2.1 gse.2.2).1 (grd (t2 100 6) gse.2.1 gse.2.2).2.1 hpi.1.2.2.1 hpi.1.2.2.2) ob_100 rfl rfl rfl hl.1 rfl (Nat.le_of_ble_eq_true rfl) ⟨Nat.le_of_ble_eq_true rfl, Nat.le_of_ble_eq_true rfl⟩ ⟨Nat.zero_le _, Nat.zero_le _⟩ dX8_unseen_70 ?_
            have tb1 := mTread_b (grd (t2 100 6) gse.2.1 gse.2.2).1 (grd (t2 100 6) gse.2.1 gse.2.2).2.1 hpi.1.2.2.1 hpi.1.2.2.2
            refine z_topi (fun x4 hx4 => ?_)
            refine z_istore C [1, 2, 3, 4, 0] [(0, .ref (a 100)), (1, .int (iI bits)), (2, .int (iI i)), (3, .int (iI x3)), (4, .int (iI x4))] hl (by decide) rfl dX8_unseen_73 (fun ls hl => ?_)
            refine z_aload_n C hl 0 rfl dX8_unseen_75 ?_
            refine zg_X8_22 C hP dX8_unseen_76 ?_
            refine z_iload_n C hl 2 rfl dX8_unseen_79 ?_
            refine z_iald C hP ia_105 ⟨by omega, by omega⟩ dX8_unseen_80 ?_
            refine z_sSi C hP (As := [.int (iI (t2 105 i))]) lk_X8_190 (c_X8_hard hI t2 (t2 105 i) hpi.2) rfl hl.1 rfl (Nat.le_of_ble_eq_true rfl) ⟨Nat.le_of_ble_eq_true rfl, Nat.le_of_ble_eq_true rfl⟩ ⟨Nat.zero_le _, Nat.zero_le _⟩ dX8_unseen_81 ?_
            have hhb := mHard_b (mSort (t2 105 i))
            refine z_iload_n C hl 3 rfl dX8_unseen_84 ?_
            refine z_sSi C hP (As := [.int (iI (mHard (mSort (t2 105 i)))), .int (iI x3)]) lk_X8_193 (c_X8_seconds hI t2 (mHard (mSort (t2 105 i))) x3 (by omega) (by omega)) rfl hl.1 rfl (Nat.le_of_ble_eq_true rfl) ⟨Nat.le_of_ble_eq_true rfl, Nat.le_of_ble_eq_true rfl⟩ ⟨Nat.zero_le _, Nat.zero_le _⟩ dX8_unseen_85 ?_
            have sb85 := mSec_b (h := mHard (mSort (t2 105 i))) (t := x3 + x4) (by omega)
            have sc85 := mSec_b (h := mHard (mSort (t2 105 i))) (t := x3) (by omega)
            refine z_aload_n C hl 0 rfl dX8_unseen_88 ?_
            refine zg_X8_22 C hP dX8_unseen_89 ?_
            refine z_iload_n C hl 2 rfl dX8_unseen_92 ?_
            refine z_iald C hP ia_105 ⟨by omega, by omega⟩ dX8_unseen_93 ?_
            refine z_sSi C hP (As := [.int (iI (t2 105 i))]) lk_X8_190 (c_X8_hard hI t2 (t2 105 i) hpi.2) rfl hl.1 rfl (Nat.le_of_ble_eq_true rfl) ⟨Nat.le_of_ble_eq_true rfl, Nat.le_of_ble_eq_true rfl⟩ ⟨Nat.zero_le _, Nat.zero_le _⟩ dX8_unseen_94 ?_
            have hhb := mHard_b (mSort (t2 105 i))
            refine z_iload_n C hl 3 rfl dX8_unseen_97 ?_
            refine z_iload C hl 4 rfl dX8_unseen_98 ?_
            refine z_iadd C dX8_unseen_100 ?_
            refine z_sSi C hP (As := [.int (iI (mHard (mSort (t2 105 i)))), .int (iI (x3 + x4))]) lk_X8_193 (c_X8_seconds hI t2 (mHard (mSort (t2 105 i))) (x3 + x4) (by omega) (by omega)) rfl hl.1 rfl (Nat.le_of_ble_eq_true rfl) ⟨Nat.le_of_ble_eq_true rfl, Nat.le_of_ble_eq_true rfl⟩ ⟨Nat.zero_le _, Nat.zero_le _⟩ dX8_unseen_101 ?_
            have sb101 := mSec_b (h := mHard (mSort (t2 105 i))) (t := x3 + x4) (by omega)
            have sc101 := mSec_b (h := mHard (mSort (t2 105 i))) (t := x3) (by omega)
            refine z_icmp_ne C 111 dX8_unseen_104 (by decide) ⟨by omega, by omega⟩ ⟨by omega, by omega⟩ (fun c_104 => ?_) (fun c_104 => ?_)
            · refine z_iconst C dX8_unseen_111 ?_
              refine z_istore C [1, 2, 3, 4, 5, 0] [(0, .ref (a 100)), (1, .int (iI bits)), (2, .int (iI i)), (3, .int (iI x3)), (4, .int (iI x4)), (5, .int (iI 0))] hl (by decide) rfl dX8_unseen_112 (fun ls hl => ?_)
              refine z_iload_n C hl 1 rfl dX8_unseen_114 ?_
              refine z_iload C hl 5 rfl dX8_unseen_115 ?_
              refine z_ifT_eq C 126 dX8_unseen_117 (by decide) ⟨by decide, by decide⟩ (by decide) ?_
              refine z_iconst C dX8_unseen_126 ?_
              have hjf : jUf t2 i = if mSec (mHard (mSort (t2 105 i))) (x3 + x4) = mSec (mHard (mSort (t2 105 i))) x3 then 2 ^ i.toNat else 0 := by unfold jUf; rw [show jTF t2 i = x3 from (by subst_vars; rfl), show jTB t2 i = x4 from (by subst_vars; rfl)]
              refine z_ior C bits (z_or0 _) dX8_unseen_127 ?_
              refine z_istore_n C [1, 0, 2, 3, 4, 5] [(0, .ref (a 100)), (1, .int (iI bits)), (2, .int (iI i)), (3, .int (iI x3)), (4, .int (iI x4)), (5, .int (iI 0))] hl (by decide) rfl dX8_unseen_128 (fun ls hl => ?_)
              refine z_iinc C 2 [1, 2, 0, 3, 4, 5] [(0, .ref (a 100)), (1, .int (iI bits)), (2, .int (iI (i + 1))), (3, .int (iI x3)), (4, .int (iI x4)), (5, .int (iI 0))] hl rfl (by decide) rfl dX8_unseen_129 (fun ls hl => ?_)
              refine z_goto C 24 dX8_unseen_132 (by decide) ?_
              exact ih_24 bits (i + 1) t2 H locs hP hS ls (by rfl) (by omega) (by rw [mSum_s _ ii.1, ← iv, hjf]; first | (rw [if_pos (by omega)]; first | done | omega) | (rw [if_neg (by omega)]; first | done | omega)) (by omega) (lv_sub hl [0, 1, 2] rfl)
            · refine z_iconst C dX8_unseen_107 ?_
              refine z_goto C 112 dX8_unseen_108 (by decide) ?_
              refine z_istore C [1, 2, 3, 4, 5, 0] [(0, .ref (a 100)), (1, .int (iI bits)), (2, .int (iI i)), (3, .int (iI x3)), (4, .int (iI x4)), (5, .int (iI 1))] hl (by decide) rfl dX8_unseen_112 (fun ls hl => ?_)
              refine z_iload_n C hl 1 rfl dX8_unseen_114 ?_
              refine z_iload C hl 5 rfl dX8_unseen_115 ?_
              refine z_ifF_eq C 126 dX8_unseen_117 (by decide) ⟨by decide, by decide⟩ (by decide) ?_
              refine z_iconst C dX8_unseen_120 ?_
              refine z_iload_n C hl 2 rfl dX8_unseen_121 ?_
              refine z_ishl C (2 ^ i.toNat) (z_shl1 ⟨by omega, by omega⟩) dX8_unseen_122 ?_
              refine z_goto C 127 dX8_unseen_123 (by decide) ?_
              have hjf : jUf t2 i = if mSec (mHard (mSort (t2 105 i))) (x3 + x4) = mSec (mHard (mSort (t2 105 i))) x3 then 2 ^ i.toNat else 0 := by unfold jUf; rw [show jTF t2 i = x3 from (by subst_vars; rfl), show jTB t2 i = x4 from (by subst_vars; rfl)]
              refine z_ior C (bits + 2 ^ i.toNat) (z_orhi ⟨by omega, by omega⟩ hbs) dX8_unseen_127 ?_
              refine z_topi (fun x5 hx5 => ?_)
              refine z_istore_n C [1, 0, 2, 3, 4, 5] [(0, .ref (a 100)), (1, .int (iI x5)), (2, .int (iI i)), (3, .int (iI x3)), (4, .int (iI x4)), (5, .int (iI 1))] hl (by decide) rfl dX8_unseen_128 (fun ls hl => ?_)
              refine z_iinc C 2 [1, 2, 0, 3, 4, 5] [(0, .ref (a 100)), (1, .int (iI x5)), (2, .int (iI (i + 1))), (3, .int (iI x3)), (4, .int (iI x4)), (5, .int (iI 1))] hl rfl (by decide) rfl dX8_unseen_129 (fun ls hl => ?_)
              refine z_goto C 24 dX8_unseen_132 (by decide) ?_
              exact ih_24 x5 (i + 1) t2 H locs hP hS ls (by rfl) (by omega) (by rw [mSum_s _ ii.1, ← iv, hjf]; first | (rw [if_pos (by omega)]; first | done | omega) | (rw [if_neg (by omega)]; first | done | omega)) (by omega) (lv_sub hl [0, 1, 2] rfl)
      exact L_24 _ 0 0 t2 _ _ hP hS ls (by rfl) (by omega) (by rfl) (Nat.lt_succ_self _) (lv_sub hl [0, 1, 2] rfl)
    · refine z_bipush C (by decide +kernel) dX8_unseen_17 ?_
      exact z_retQi C hP hS hr hlocks rfl (by exact ⟨fun h => absurd h b_1, fun _ => Or.inl ⟨(by rcases hp11.1 with h | h; exact h.2; exact absurd h.1 (by omega)), rfl⟩, ft2⟩) dX8_unseen_19
