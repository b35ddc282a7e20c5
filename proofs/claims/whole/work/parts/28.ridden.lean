set_option maxRecDepth 20000 in
set_option maxHeartbeats 4000000 in
theorem c_X7_ridden {l : Launch} {D : va_G} {Y : Nat → ClassId} {a : Int → Nat} (hI : zI a) (σ : zS) (m0 wh : Int) (r1 : R3 m0) (r2 : R3 wh) (hth : ∀ r : Int, 0 ≤ r → r ≤ 3 → σ (40 + r) 0 = 0 ∨ σ (40 + r) 0 = 1) (hn : 1 ≤ σ 32 12 ∧ σ 32 12 ≤ 24) (hg : ∀ i : Int, 0 ≤ i → i < 24 → -1 ≤ σ 35 i ∧ σ 35 i ≤ 6) (hse : (0 ≤ σ 32 7 ∧ σ 32 7 ≤ 3) ∧ (0 ≤ σ 32 8 ∧ σ 32 8 ≤ 3)) (hrd : ∀ r : Int, 0 ≤ r → r ≤ 3 → (0 ≤ σ (40 + r) 1 ∧ σ (40 + r) 1 ≤ 20) ∧ (0 ≤ σ (40 + r) 2 ∧ σ (40 + r) 2 ≤ 10) ∧ (0 ≤ σ (40 + r) 3 ∧ σ (40 + r) 3 ≤ 9) ∧ (0 ≤ σ (40 + r) 4 ∧ σ (40 + r) 4 ≤ 50)) (hho : 5 ≤ σ 32 9 ∧ σ 32 9 ≤ 20) (hpz : 0 ≤ σ 32 10 ∧ σ 32 10 ≤ 99) (hp : 0 ≤ σ 3 1 ∧ σ 3 1 ≤ 110) (hq : ∀ i : Int, 0 ≤ i → i < 110 → 0 ≤ σ 4 i ∧ σ 4 i ≤ 126) : zMet l yX7_ridden cX7_ridden 4 (some .int) 5 (zPc D Y a σ [.ref (a 0), .int (iI m0), .int (iI wh)]) (zQi D Y a (fun r τ => (¬ (σ (40 + σ 32 7) 0 = 1 ∧ σ (40 + σ 32 8) 0 = 1) → r = -3) ∧ (σ (40 + σ 32 7) 0 = 1 ∧ σ (40 + σ 32 8) 0 = 1 → ¬ (-1 ≤ m0 ∧ m0 ≤ σ 32 12 - 1 ∧ 0 ≤ wh ∧ wh ≤ 3) → r = -2) ∧ (σ (40 + σ 32 7) 0 = 1 ∧ σ (40 + σ 32 8) 0 = 1 → (-1 ≤ m0 ∧ m0 ≤ σ 32 12 - 1 ∧ 0 ≤ wh ∧ wh ≤ 3) → ¬ (kPl σ ∧ kAll σ) → r = -5) ∧ (σ (40 + σ 32 7) 0 = 1 ∧ σ (40 + σ 32 8) 0 = 1 → (-1 ≤ m0 ∧ m0 ≤ σ 32 12 - 1 ∧ 0 ≤ wh ∧ wh ≤ 3) → kPl σ → kAll σ → ∀ M0 : Int, M0 = (if m0 < 0 then σ 32 12 - 1 else m0) → r = (if wh = 0 then kS (kRho σ) (-1) (M0 + 1).toNat else if wh = 1 then kWF (kRho σ) (-1) (M0 + 1).toNat else if wh = 2 then kWB (kRho σ) (-1) (M0 + 1).toNat else kH (kRho σ) (-1) (M0 + 1).toNat)) ∧ (∀ k : Int, k < 6 ∨ 14 < k → τ k = σ k))) (inA a) := by
  refine z_start rfl (Nat.le_of_ble_eq_true rfl) hI ?_
  intro p e s m below meth c ls C hr hlocks hl hP
  have hS : va_S (inA a) s.heap s.heap [] := va_S.rf
  have hl : lv_has ls 4 [(0, .ref (a 0)), (1, .int (iI m0)), (2, .int (iI wh))] := hl
  skip
  refine z_aload_n C hl 0 rfl dX7_ridden_0 ?_
  refine z_vSi C hP (As := []) lk_X7_122 (c_X7_areSeated hI σ  hth hse) ob_0 rfl rfl rfl hl.1 rfl (Nat.le_of_ble_eq_true rfl) ⟨Nat.le_of_ble_eq_true rfl, Nat.le_of_ble_eq_true rfl⟩ ⟨Nat.zero_le _, Nat.zero_le _⟩ dX7_ridden_1 ?_
  by_cases b_1 : σ (40 + σ 32 7) 0 = 1 ∧ σ (40 + σ 32 8) 0 = 1
  · rw [show (if σ (40 + σ 32 7) 0 = 1 ∧ σ (40 + σ 32 8) 0 = 1 then (1 : Int) else 0) = 1 from if_pos b_1]
    refine z_ifT_ne C 10 dX7_ridden_4 (by decide) ⟨by decide, by decide⟩ (by decide) ?_
    refine z_iload_n C hl 1 rfl dX7_ridden_10 ?_
    refine z_iconst C dX7_ridden_11 ?_
    refine z_aload_n C hl 0 rfl dX7_ridden_12 ?_
    refine zg_X7_12 C hP dX7_ridden_13 ?_
    refine zg32_X7_104 C hP dX7_ridden_16 ?_
    refine z_iconst C dX7_ridden_19 ?_
    refine z_isub C dX7_ridden_20 ?_
    refine z_sSi C hP (As := [.int (iI m0), .int (iI (-1)), .int (iI ((σ 32 12) - 1))]) lk_X7_52 (c_X7_isWithin hI σ m0 (-1) ((σ 32 12) - 1) r1 ⟨by decide, by decide⟩ ⟨by omega, by omega⟩) rfl hl.1 rfl (Nat.le_of_ble_eq_true rfl) ⟨Nat.le_of_ble_eq_true rfl, Nat.le_of_ble_eq_true rfl⟩ ⟨Nat.zero_le _, Nat.zero_le _⟩ dX7_ridden_21 ?_
    by_cases b_21 : (-1) ≤ m0 ∧ m0 ≤ ((σ 32 12) - 1)
    · rw [show (if (-1) ≤ m0 ∧ m0 ≤ ((σ 32 12) - 1) then (1 : Int) else 0) = 1 from if_pos b_21]
      refine z_ifF_eq C 36 dX7_ridden_24 (by decide) ⟨by decide, by decide⟩ (by decide) ?_
      refine z_iload_n C hl 2 rfl dX7_ridden_27 ?_
      refine z_iconst C dX7_ridden_28 ?_
      refine z_iconst C dX7_ridden_29 ?_
      refine z_sSi C hP (As := [.int (iI wh), .int (iI 0), .int (iI 3)]) lk_X7_52 (c_X7_isWithin hI σ wh 0 3 r2 ⟨by decide, by decide⟩ ⟨by decide, by decide⟩) rfl hl.1 rfl (Nat.le_of_ble_eq_true rfl) ⟨Nat.le_of_ble_eq_true rfl, Nat.le_of_ble_eq_true rfl⟩ ⟨Nat.zero_le _, Nat.zero_le _⟩ dX7_ridden_30 ?_
      by_cases b_30 : 0 ≤ wh ∧ wh ≤ 3
      · rw [show (if 0 ≤ wh ∧ wh ≤ 3 then (1 : Int) else 0) = 1 from if_pos b_30]
        refine z_ifT_ne C 39 dX7_ridden_33 (by decide) ⟨by decide, by decide⟩ (by decide) ?_
        refine z_aload_n C hl 0 rfl dX7_ridden_39 ?_
        refine z_vQi hS C hP (As := []) lk_X7_136 (c_X7_planIsRidden hI σ  hth hn hg hse hrd hho hpz hp hq) ob_0 rfl rfl rfl hl.1 rfl (Nat.le_of_ble_eq_true rfl) ⟨Nat.le_of_ble_eq_true rfl, Nat.le_of_ble_eq_true rfl⟩ ⟨Nat.zero_le _, Nat.zero_le _⟩ dX7_ridden_40 (fun r1 t2 H locs hp40 hP hS => ?_)
        have ft2 : ∀ k : Int, k < 6 ∨ 14 < k → t2 k = σ k := hp40.2
        have hr01 : r1 = 0 ∨ r1 = 1 := by rcases hp40.1 with h | h; exact Or.inr h.1; exact Or.inl h.1
        refine z_if_ne C 49 dX7_ridden_43 (by decide) ⟨by omega, by omega⟩ (fun c_43 => ?_) (fun c_43 => ?_)
        · have hPA : kPl σ ∧ kAll σ ∧ kA (kRho σ) t2 (σ 32 12).toNat ∧ kD (kRho σ) t2 (-1) (σ 32 12) := by rcases hp40.1 with h | h; exact h.2; exact absurd h.1 c_43
          refine z_iload_n C hl 1 rfl dX7_ridden_49 ?_
          refine z_if_ge C 65 dX7_ridden_50 (by decide) ⟨by omega, by omega⟩ (fun c_50 => ?_) (fun c_50 => ?_)
          · refine z_iload_n C hl 1 rfl dX7_ridden_65 ?_
            refine z_istore_n C [1, 2, 3, 0] [(0, .ref (a 0)), (1, .int (iI m0)), (2, .int (iI wh)), (3, .int (iI m0))] hl (by decide) rfl dX7_ridden_66 (fun ls hl => ?_)
            refine z_iload_n C hl 2 rfl dX7_ridden_67 ?_
            refine z_if_ne C 81 dX7_ridden_68 (by decide) ⟨by omega, by omega⟩ (fun c_68 => ?_) (fun c_68 => ?_)
            · refine z_iload_n C hl 2 rfl dX7_ridden_81 ?_
              refine z_iconst C dX7_ridden_82 ?_
              refine z_icmp_ne C 96 dX7_ridden_83 (by decide) ⟨by omega, by omega⟩ ⟨by omega, by omega⟩ (fun c_83 => ?_) (fun c_83 => ?_)
              · refine z_iload_n C hl 2 rfl dX7_ridden_96 ?_
                refine z_iconst C dX7_ridden_97 ?_
                refine z_icmp_ne C 111 dX7_ridden_98 (by decide) ⟨by omega, by omega⟩ ⟨by omega, by omega⟩ (fun c_98 => ?_) (fun c_98 => ?_)
                · refine z_aload_n C hl 0 rfl dX7_ridden_111 ?_
                  refine zg_X7_41 C hP dX7_ridden_112 ?_
                  refine zg_X7_149 C hP dX7_ridden_115 ?_
                  refine z_iload_n C hl 3 rfl dX7_ridden_118 ?_
                  refine z_iald C hP ia_14 ⟨by omega, by omega⟩ dX7_ridden_119 ?_
                  exact z_retQi C hP hS hr hlocks rfl (by exact ⟨fun h => absurd b_1 h, fun _ h => (by exfalso; omega), fun _ _ h => absurd ⟨hPA.1, hPA.2.1⟩ h, fun _ _ _ _ M0 hM => (by have hM2 : M0 = m0 := (by rw [hM]; split <;> omega); rw [hM2]; have hd := hPA.2.2.2 m0 (by omega) (by omega); first | (rw [if_pos (by omega)]; exact hd.1) | (rw [if_neg (by omega), if_pos (by omega)]; exact hd.2.1) | (rw [if_neg (by omega), if_neg (by omega), if_pos (by omega)]; exact hd.2.2.1) | (rw [if_neg (by omega), if_neg (by omega), if_neg (by omega)]; exact hd.2.2.2)), ft2⟩) dX7_ridden_120
                · refine z_aload_n C hl 0 rfl dX7_ridden_101 ?_
                  refine zg_X7_41 C hP dX7_ridden_102 ?_
                  refine zg_X7_146 C hP dX7_ridden_105 ?_
                  refine z_iload_n C hl 3 rfl dX7_ridden_108 ?_
                  refine z_iald C hP ia_13 ⟨by omega, by omega⟩ dX7_ridden_109 ?_
                  exact z_retQi C hP hS hr hlocks rfl (by exact ⟨fun h => absurd b_1 h, fun _ h => (by exfalso; omega), fun _ _ h => absurd ⟨hPA.1, hPA.2.1⟩ h, fun _ _ _ _ M0 hM => (by have hM2 : M0 = m0 := (by rw [hM]; split <;> omega); rw [hM2]; have hd := hPA.2.2.2 m0 (by omega) (by omega); first | (rw [if_pos (by omega)]; exact hd.1) | (rw [if_neg (by omega), if_pos (by omega)]; exact hd.2.1) | (rw [if_neg (by omega), if_neg (by omega), if_pos (by omega)]; exact hd.2.2.1) | (rw [if_neg (by omega), if_neg (by omega), if_neg (by omega)]; exact hd.2.2.2)), ft2⟩) dX7_ridden_110
              · refine z_aload_n C hl 0 rfl dX7_ridden_86 ?_
                refine zg_X7_41 C hP dX7_ridden_87 ?_
                refine zg_X7_143 C hP dX7_ridden_90 ?_
                refine z_iload_n C hl 3 rfl dX7_ridden_93 ?_
                refine z_iald C hP ia_12 ⟨by omega, by omega⟩ dX7_ridden_94 ?_
                exact z_retQi C hP hS hr hlocks rfl (by exact ⟨fun h => absurd b_1 h, fun _ h => (by exfalso; omega), fun _ _ h => absurd ⟨hPA.1, hPA.2.1⟩ h, fun _ _ _ _ M0 hM => (by have hM2 : M0 = m0 := (by rw [hM]; split <;> omega); rw [hM2]; have hd := hPA.2.2.2 m0 (by omega) (by omega); first | (rw [if_pos (by omega)]; exact hd.1) | (rw [if_neg (by omega), if_pos (by omega)]; exact hd.2.1) | (rw [if_neg (by omega), if_neg (by omega), if_pos (by omega)]; exact hd.2.2.1) | (rw [if_neg (by omega), if_neg (by omega), if_neg (by omega)]; exact hd.2.2.2)), ft2⟩) dX7_ridden_95
            · refine z_aload_n C hl 0 rfl dX7_ridden_71 ?_
              refine zg_X7_41 C hP dX7_ridden_72 ?_
              refine zg_X7_139 C hP dX7_ridden_75 ?_
              refine z_iload_n C hl 3 rfl dX7_ridden_78 ?_
              refine z_iald C hP ia_11 ⟨by omega, by omega⟩ dX7_ridden_79 ?_
              exact z_retQi C hP hS hr hlocks rfl (by exact ⟨fun h => absurd b_1 h, fun _ h => (by exfalso; omega), fun _ _ h => absurd ⟨hPA.1, hPA.2.1⟩ h, fun _ _ _ _ M0 hM => (by have hM2 : M0 = m0 := (by rw [hM]; split <;> omega); rw [hM2]; have hd := hPA.2.2.2 m0 (by omega) (by omega); first | (rw [if_pos (by omega)]; exact hd.1) | (rw [if_neg (by omega), if_pos (by omega)]; exact hd.2.1) | (rw [if_neg (by omega), if_neg (by omega), if_pos (by omega)]; exact hd.2.2.1) | (rw [if_neg (by omega), if_neg (by omega), if_neg (by omega)]; exact hd.2.2.2)), ft2⟩) dX7_ridden_80
          · refine z_aload_n C hl 0 rfl dX7_ridden_53 ?_
            refine zg_X7_12 C hP dX7_ridden_54 ?_
            refine zg32_X7_104 C hP dX7_ridden_57 ?_
            rw [show t2 32 12 = σ 32 12 from by rw [ft2 32 (by omega)]]
            refine z_iconst C dX7_ridden_60 ?_
            refine z_isub C dX7_ridden_61 ?_
            refine z_goto C 66 dX7_ridden_62 (by decide) ?_
            refine z_topi (fun x3 hx3 => ?_)
            refine z_istore_n C [1, 2, 3, 0] [(0, .ref (a 0)), (1, .int (iI m0)), (2, .int (iI wh)), (3, .int (iI x3))] hl (by decide) rfl dX7_ridden_66 (fun ls hl => ?_)
            refine z_iload_n C hl 2 rfl dX7_ridden_67 ?_
            refine z_if_ne C 81 dX7_ridden_68 (by decide) ⟨by omega, by omega⟩ (fun c_68 => ?_) (fun c_68 => ?_)
            · refine z_iload_n C hl 2 rfl dX7_ridden_81 ?_
              refine z_iconst C dX7_ridden_82 ?_
              refine z_icmp_ne C 96 dX7_ridden_83 (by decide) ⟨by omega, by omega⟩ ⟨by omega, by omega⟩ (fun c_83 => ?_) (fun c_83 => ?_)
              · refine z_iload_n C hl 2 rfl dX7_ridden_96 ?_
                refine z_iconst C dX7_ridden_97 ?_
                refine z_icmp_ne C 111 dX7_ridden_98 (by decide) ⟨by omega, by omega⟩ ⟨by omega, by omega⟩ (fun c_98 => ?_) (fun c_98 => ?_)
                · refine z_aload_n C hl 0 rfl dX7_ridden_111 ?_
                  refine zg_X7_41 C hP dX7_ridden_112 ?_
                  refine zg_X7_149 C hP dX7_ridden_115 ?_
                  refine z_iload_n C hl 3 rfl dX7_ridden_118 ?_
                  refine z_iald C hP ia_14 ⟨by omega, by omega⟩ dX7_ridden_119 ?_
                  exact z_retQi C hP hS hr hlocks rfl (by exact ⟨fun h => absurd b_1 h, fun _ h => (by exfalso; omega), fun _ _ h => absurd ⟨hPA.1, hPA.2.1⟩ h, fun _ _ _ _ M0 hM => (by have hM2 : M0 = x3 := (by rw [hM]; split <;> omega); rw [hM2]; have hd := hPA.2.2.2 x3 (by omega) (by omega); first | (rw [if_pos (by omega)]; exact hd.1) | (rw [if_neg (by omega), if_pos (by omega)]; exact hd.2.1) | (rw [if_neg (by omega), if_neg (by omega), if_pos (by omega)]; exact hd.2.2.1) | (rw [if_neg (by omega), if_neg (by omega), if_neg (by omega)]; exact hd.2.2.2)), ft2⟩) dX7_ridden_120
                · refine z_aload_n C hl 0 rfl dX7_ridden_101 ?_
                  refine zg_X7_41 C hP dX7_ridden_102 ?_
                  refine zg_X7_146 C hP dX7_ridden_105 ?_
                  refine z_iload_n C hl 3 rfl dX7_ridden_108 ?_
                  refine z_iald C hP ia_13 ⟨by omega, by omega⟩ dX7_ridden_109 ?_
                  exact z_retQi C hP hS hr hlocks rfl (by exact ⟨fun h => absurd b_1 h, fun _ h => (by exfalso; omega), fun _ _ h => absurd ⟨hPA.1, hPA.2.1⟩ h, fun _ _ _ _ M0 hM => (by have hM2 : M0 = x3 := (by rw [hM]; split <;> omega); rw [hM2]; have hd := hPA.2.2.2 x3 (by omega) (by omega); first | (rw [if_pos (by omega)]; exact hd.1) | (rw [if_neg (by omega), if_pos (by omega)]; exact hd.2.1) | (rw [if_neg (by omega), if_neg (by omega), if_pos (by omega)]; exact hd.2.2.1) | (rw [if_neg (by omega), if_neg (by omega), if_neg (by omega)]; exact hd.2.2.2)), ft2⟩) dX7_ridden_110
              · refine z_aload_n C hl 0 rfl dX7_ridden_86 ?_
                refine zg_X7_41 C hP dX7_ridden_87 ?_
                refine zg_X7_143 C hP dX7_ridden_90 ?_
                refine z_iload_n C hl 3 rfl dX7_ridden_93 ?_
                refine z_iald C hP ia_12 ⟨by omega, by omega⟩ dX7_ridden_94 ?_
                exact z_retQi C hP hS hr hlocks rfl (by exact ⟨fun h => absurd b_1 h, fun _ h => (by exfalso; omega), fun _ _ h => absurd ⟨hPA.1, hPA.2.1⟩ h, fun _ _ _ _ M0 hM => (by have hM2 : M0 = x3 := (by rw [hM]; split <;> omega); rw [hM2]; have hd := hPA.2.2.2 x3 (by omega) (by omega); first | (rw [if_pos (by omega)]; exact hd.1) | (rw [if_neg (by omega), if_pos (by omega)]; exact hd.2.1) | (rw [if_neg (by omega), if_neg (by omega), if_pos (by omega)]; exact hd.2.2.1) | (rw [if_neg (by omega), if_neg (by omega), if_neg (by omega)]; exact hd.2.2.2)), ft2⟩) dX7_ridden_95
            · refine z_aload_n C hl 0 rfl dX7_ridden_71 ?_
              refine zg_X7_41 C hP dX7_ridden_72 ?_
              refine zg_X7_139 C hP dX7_ridden_75 ?_
              refine z_iload_n C hl 3 rfl dX7_ridden_78 ?_
              refine z_iald C hP ia_11 ⟨by omega, by omega⟩ dX7_ridden_79 ?_
              exact z_retQi C hP hS hr hlocks rfl (by exact ⟨fun h => absurd b_1 h, fun _ h => (by exfalso; omega), fun _ _ h => absurd ⟨hPA.1, hPA.2.1⟩ h, fun _ _ _ _ M0 hM => (by have hM2 : M0 = x3 := (by rw [hM]; split <;> omega); rw [hM2]; have hd := hPA.2.2.2 x3 (by omega) (by omega); first | (rw [if_pos (by omega)]; exact hd.1) | (rw [if_neg (by omega), if_pos (by omega)]; exact hd.2.1) | (rw [if_neg (by omega), if_neg (by omega), if_pos (by omega)]; exact hd.2.2.1) | (rw [if_neg (by omega), if_neg (by omega), if_neg (by omega)]; exact hd.2.2.2)), ft2⟩) dX7_ridden_80
        · refine z_bipush C (by decide +kernel) dX7_ridden_46 ?_
          exact z_retQi C hP hS hr hlocks rfl (by exact ⟨fun h => absurd b_1 h, fun _ h => (by exfalso; omega), fun _ _ _ => rfl, fun _ _ h1 h2 => absurd (And.intro h1 h2) (by rcases hp40.1 with h | h; exact absurd h.1 (by omega); exact h.2), ft2⟩) dX7_ridden_48
      · rw [show (if 0 ≤ wh ∧ wh ≤ 3 then (1 : Int) else 0) = 0 from if_neg b_30]
        refine z_ifF_ne C 39 dX7_ridden_33 (by decide) ⟨by decide, by decide⟩ (by decide) ?_
        refine z_bipush C (by decide +kernel) dX7_ridden_36 ?_
        exact z_retQi C hP hS hr hlocks rfl (by exact ⟨fun h => absurd b_1 h, fun _ _ => rfl, fun _ h => (by exfalso; omega), fun _ h => (by exfalso; omega), fun _ _ => rfl⟩) dX7_ridden_38
    · rw [show (if (-1) ≤ m0 ∧ m0 ≤ ((σ 32 12) - 1) then (1 : Int) else 0) = 0 from if_neg b_21]
      refine z_ifT_eq C 36 dX7_ridden_24 (by decide) ⟨by decide, by decide⟩ (by decide) ?_
      refine z_bipush C (by decide +kernel) dX7_ridden_36 ?_
      exact z_retQi C hP hS hr hlocks rfl (by exact ⟨fun h => absurd b_1 h, fun _ _ => rfl, fun _ h => (by exfalso; omega), fun _ h => (by exfalso; omega), fun _ _ => rfl⟩) dX7_ridden_38
  · rw [show (if σ (40 + σ 32 7) 0 = 1 ∧ σ (40 + σ 32 8) 0 = 1 then (1 : Int) else 0) = 0 from if_neg b_1]
    refine z_ifF_ne C 10 dX7_ridden_4 (by decide) ⟨by decide, by decide⟩ (by decide) ?_
    refine z_bipush C (by decide +kernel) dX7_ridden_7 ?_
    exact z_retQi C hP hS hr hlocks rfl (by exact ⟨fun _ => rfl, fun h => absurd h b_1, fun h => absurd h b_1, fun h => absurd h b_1, fun _ _ => rfl⟩) dX7_ridden_9

set_option maxRecDepth 20000 in
set_option maxHeartbeats 4000000 in
theorem c_X7_unseen {l : Launch} {D : va_G} {Y : Nat → ClassId} {a : Int → Nat} (hI : zI a) (σ : zS)  (hth : ∀ r : Int, 0 ≤ r → r ≤ 3 → σ (40 + r) 0 = 0 ∨ σ (40 + r) 0 = 1) (hn : 1 ≤ σ 32 12 ∧ σ 32 12 ≤ 24) (hg : ∀ i : Int, 0 ≤ i → i < 24 → -1 ≤ σ 35 i ∧ σ 35 i ≤ 6) (hse : (0 ≤ σ 32 7 ∧ σ 32 7 ≤ 3) ∧ (0 ≤ σ 32 8 ∧ σ 32 8 ≤ 3)) (hrd : ∀ r : Int, 0 ≤ r → r ≤ 3 → (0 ≤ σ (40 + r) 1 ∧ σ (40 + r) 1 ≤ 20) ∧ (0 ≤ σ (40 + r) 2 ∧ σ (40 + r) 2 ≤ 10) ∧ (0 ≤ σ (40 + r) 3 ∧ σ (40 + r) 3 ≤ 9) ∧ (0 ≤ σ (40 + r) 4 ∧ σ (40 + r) 4 ≤ 50)) (hho : 5 ≤ σ 32 9 ∧ σ 32 9 ≤ 20) (hpz : 0 ≤ σ 32 10 ∧ σ 32 10 ≤ 99) (hp : 0 ≤ σ 3 1 ∧ σ 3 1 ≤ 110) (hq : ∀ i : Int, 0 ≤ i → i < 110 → 0 ≤ σ 4 i ∧ σ 4 i ≤ 126) : zMet l yX7_unseen cX7_unseen 1 (some .int) 5 (zPc D Y a σ [.ref (a 0)]) (zQi D Y a (fun r τ => (¬ (σ (40 + σ 32 7) 0 = 1 ∧ σ (40 + σ 32 8) 0 = 1) → r = -3) ∧ (σ (40 + σ 32 7) 0 = 1 ∧ σ (40 + σ 32 8) 0 = 1 → ¬ (kPl σ ∧ kAll σ) → r = -5) ∧ (σ (40 + σ 32 7) 0 = 1 ∧ σ (40 + σ 32 8) 0 = 1 → kPl σ → kAll σ → r = mSum (kUf (kRho σ)) (σ 32 12).toNat) ∧ (∀ k : Int, k < 6 ∨ 14 < k → τ k = σ k))) (inA a) := by
  refine z_start rfl (Nat.le_of_ble_eq_true rfl) hI ?_
  intro p e s m below meth c ls C hr hlocks hl hP
  have hS : va_S (inA a) s.heap s.heap [] := va_S.rf
  have hl : lv_has ls 1 [(0, .ref (a 0))] := hl
  skip
  refine z_aload_n C hl 0 rfl dX7_unseen_0 ?_
  refine z_vSi C hP (As := []) lk_X7_122 (c_X7_areSeated hI σ  hth hse) ob_0 rfl rfl rfl hl.1 rfl (Nat.le_of_ble_eq_true rfl) ⟨Nat.le_of_ble_eq_true rfl, Nat.le_of_ble_eq_true rfl⟩ ⟨Nat.zero_le _, Nat.zero_le _⟩ dX7_unseen_1 ?_
  by_cases b_1 : σ (40 + σ 32 7) 0 = 1 ∧ σ (40 + σ 32 8) 0 = 1
  · rw [show (if σ (40 + σ 32 7) 0 = 1 ∧ σ (40 + σ 32 8) 0 = 1 then (1 : Int) else 0) = 1 from if_pos b_1]
    refine z_ifT_ne C 10 dX7_unseen_4 (by decide) ⟨by decide, by decide⟩ (by decide) ?_
    refine z_aload_n C hl 0 rfl dX7_unseen_10 ?_
    refine z_vQi hS C hP (As := []) lk_X7_136 (c_X7_planIsRidden hI σ  hth hn hg hse hrd hho hpz hp hq) ob_0 rfl rfl rfl hl.1 rfl (Nat.le_of_ble_eq_true rfl) ⟨Nat.le_of_ble_eq_true rfl, Nat.le_of_ble_eq_true rfl⟩ ⟨Nat.zero_le _, Nat.zero_le _⟩ dX7_unseen_11 (fun r1 t2 H locs hp11 hP hS => ?_)
    have ft2 : ∀ k : Int, k < 6 ∨ 14 < k → t2 k = σ k := hp11.2
    have hr01 : r1 = 0 ∨ r1 = 1 := by rcases hp11.1 with h | h; exact Or.inr h.1; exact Or.inl h.1
    refine z_if_ne C 20 dX7_unseen_14 (by decide) ⟨by omega, by omega⟩ (fun c_14 => ?_) (fun c_14 => ?_)
    · have hPA : kPl σ ∧ kAll σ ∧ kA (kRho σ) t2 (σ 32 12).toNat ∧ kD (kRho σ) t2 (-1) (σ 32 12) := by rcases hp11.1 with h | h; exact h.2; exact absurd h.1 c_14
      refine z_aload_n C hl 0 rfl dX7_unseen_20 ?_
      refine zg_X7_41 C hP dX7_unseen_21 ?_
      refine zg_X7_168 C hP dX7_unseen_24 ?_
      exact z_retQi C hP hS hr hlocks rfl (by exact ⟨fun h => absurd b_1 h, fun _ h => absurd ⟨hPA.1, hPA.2.1⟩ h, fun _ _ _ => hPA.2.2.1.2.2.2.2, ft2⟩) dX7_unseen_27
    · refine z_bipush C (by decide +kernel) dX7_unseen_17 ?_
      exact z_retQi C hP hS hr hlocks rfl (by exact ⟨fun h => absurd b_1 h, fun _ _ => rfl, fun _ h1 h2 => absurd (And.intro h1 h2) (by rcases hp11.1 with h | h; exact absurd h.1 (by omega); exact h.2), ft2⟩) dX7_unseen_19
  · rw [show (if σ (40 + σ 32 7) 0 = 1 ∧ σ (40 + σ 32 8) 0 = 1 then (1 : Int) else 0) = 0 from if_neg b_1]
    refine z_ifF_ne C 10 dX7_unseen_4 (by decide) ⟨by decide, by decide⟩ (by decide) ?_
    refine z_bipush C (by decide +kernel) dX7_unseen_7 ?_
    exact z_retQi C hP hS hr hlocks rfl (by exact ⟨fun _ => rfl, fun h => absurd h b_1, fun h => absurd h b_1, fun _ _ => rfl⟩) dX7_unseen_9

set_option maxRecDepth 20000 in
set_option maxHeartbeats 4000000 in
theorem c_X7_fault {l : Launch} {D : va_G} {Y : Nat → ClassId} {a : Int → Nat} (hI : zI a) (σ : zS) (hw : Int) (r1 : R3 hw) (hn : 1 ≤ σ 32 12 ∧ σ 32 12 ≤ 24) (hp : 0 ≤ σ 3 1 ∧ σ 3 1 ≤ 110) (hq : ∀ i : Int, 0 ≤ i → i < 110 → 0 ≤ σ 4 i ∧ σ 4 i ≤ 126) : zMet l yX7_fault cX7_fault 2 (some .int) 4 (zPc D Y a σ [.ref (a 0), .int (iI hw)]) (zQi D Y a (fun r τ => (hw = 0 → r = mFWg (σ 4) (σ 3 1) 110 0) ∧ (hw = 1 → r = mRd (mSg σ) (σ 32 12) (σ 3 1) (σ 32 12).toNat 0) ∧ (hw ≠ 0 → hw ≠ 1 → r = -2) ∧ (∀ k : Int, k < 6 ∨ 14 < k → τ k = σ k))) (inA a) := by
  refine z_start rfl (Nat.le_of_ble_eq_true rfl) hI ?_
  intro p e s m below meth c ls C hr hlocks hl hP
  have hS : va_S (inA a) s.heap s.heap [] := va_S.rf
  have hl : lv_has ls 2 [(0, .ref (a 0)), (1, .int (iI hw))] := hl
  skip
  refine z_iload_n C hl 1 rfl dX7_fault_0 ?_
  refine z_if_ne C 12 dX7_fault_1 (by decide) r1 (fun c_1 => ?_) (fun c_1 => ?_)
  · refine z_iload_n C hl 1 rfl dX7_fault_12 ?_
    refine z_iconst C dX7_fault_13 ?_
    refine z_icmp_ne C 36 dX7_fault_14 (by decide) r1 ⟨by omega, by omega⟩ (fun c_14 => ?_) (fun c_14 => ?_)
    · refine z_bipush C (by decide +kernel) dX7_fault_36 ?_
      exact z_retQi C hP hS hr hlocks rfl (by exact ⟨fun h => (by exfalso; omega), fun h => (by exfalso; omega), fun _ _ => rfl, fun _ _ => rfl⟩) dX7_fault_38
    · refine z_aload_n C hl 0 rfl dX7_fault_17 ?_
      refine zg_X7_34 C hP dX7_fault_18 ?_
      refine z_aload_n C hl 0 rfl dX7_fault_21 ?_
      refine zg_X7_27 C hP dX7_fault_22 ?_
      refine z_aload_n C hl 0 rfl dX7_fault_25 ?_
      refine zg_X7_12 C hP dX7_fault_26 ?_
      refine zg32_X7_104 C hP dX7_fault_29 ?_
      refine z_vQi hS C hP (As := [.ref (a 3), .int (iI (σ 32 12))]) lk_X7_107 (c_X2_read hI σ (σ 32 12) hn hp hq) ob_5 rfl rfl rfl hl.1 rfl (Nat.le_of_ble_eq_true rfl) ⟨Nat.le_of_ble_eq_true rfl, Nat.le_of_ble_eq_true rfl⟩ ⟨Nat.zero_le _, Nat.zero_le _⟩ dX7_fault_32 (fun r1 t2 H locs hp32 hP hS => ?_)
      have ft2 : ∀ k : Int, k < 6 ∨ 14 < k → t2 k = σ k := fun k hk => hp32.2.1 k (by omega)
      exact z_retQi C hP hS hr hlocks rfl (by exact ⟨fun h => (by exfalso; omega), fun _ => hp32.1, fun _ h => (by exfalso; omega), ft2⟩) dX7_fault_35
  · refine z_aload_n C hl 0 rfl dX7_fault_4 ?_
    refine zg_X7_27 C hP dX7_fault_5 ?_
    refine z_vSi C hP (As := []) lk_X7_101 (c_X1_faultAsWay hI σ  hp hq) ob_3 rfl rfl rfl hl.1 rfl (Nat.le_of_ble_eq_true rfl) ⟨Nat.le_of_ble_eq_true rfl, Nat.le_of_ble_eq_true rfl⟩ ⟨Nat.zero_le _, Nat.zero_le _⟩ dX7_fault_8 ?_
    exact z_retQi C hP hS hr hlocks rfl (by exact ⟨fun _ => rfl, fun h => (by exfalso; omega), fun h => (by exfalso; omega), fun _ _ => rfl⟩) dX7_fault_11

theorem euc_step {x y : Int} {L : Nat} (hy : 0 < y) (hyx : y < x) (h : x * y < 2 ^ L) : y * (x % y) < 2 ^ (L - 1) ∧ 1 ≤ L := by
  have h1 : x % y < y := Int.emod_lt_of_pos _ hy
  have h0 : 0 ≤ x % y := Int.emod_nonneg _ (by omega)
  have hd : y * (x / y) + x % y = x := Int.mul_ediv_add_emod x y
  have hq : 1 ≤ x / y := by
    rcases (by omega : x / y < 1 ∨ 1 ≤ x / y) with q | q
    · have q0 : x / y ≤ 0 := by omega
      have : y * (x / y) ≤ y * 0 := Int.mul_le_mul_of_nonneg_left q0 (by omega)
      rw [Int.mul_zero] at this
      omega
    · exact q
  have hq2 : y * 1 ≤ y * (x / y) := Int.mul_le_mul_of_nonneg_left hq (by omega)
  rw [Int.mul_one] at hq2
  have h2 : 2 * (x % y) ≤ x := by omega
  have h3 : y * (2 * (x % y)) ≤ y * x := Int.mul_le_mul_of_nonneg_left h2 (by omega)
  have h4 : y * (2 * (x % y)) = 2 * (y * (x % y)) := by rw [Int.mul_left_comm]
  have h5 : y * x = x * y := Int.mul_comm _ _
  have hL : 1 ≤ L := by
    cases L with
    | zero =>
      have : 1 * 1 ≤ x * y := Int.mul_le_mul (by omega) (by omega) (by omega) (by omega)
      have e : (2 : Int) ^ 0 = 1 := rfl
      omega
    | succ L => omega
  have e : (2 : Int) ^ L = 2 * 2 ^ (L - 1) := by
    have : L = (L - 1) + 1 := by omega
    rw [this, Int.pow_succ, Int.mul_comm]
    rfl
  exact ⟨by omega, hL⟩
theorem euc_0 {x y : Int} {L : Nat} (hx : 0 ≤ x) (hy : 0 < y) (h : x * y < 2 ^ L) : y * (x % y) < 2 ^ L := by
  have h0 : 0 ≤ x % y := Int.emod_nonneg _ (by omega)
  have hd : y * (x / y) + x % y = x := Int.mul_ediv_add_emod x y
  have hq : 0 ≤ x / y := Int.ediv_nonneg hx (by omega)
  have hq2 : 0 ≤ y * (x / y) := Int.mul_nonneg (by omega) hq
  have h3 : y * (x % y) ≤ y * x := Int.mul_le_mul_of_nonneg_left (by omega) (by omega)
  rw [Int.mul_comm y x] at h3
  omega
theorem euc_g {x y : Int} (hx : 0 ≤ x) (hy : 0 < y) : Nat.gcd (x % y).toNat y.toNat = Nat.gcd y.toNat x.toNat := by
  rw [Int.toNat_emod hx (by omega)]
  exact (Nat.gcd_rec y.toNat x.toNat).symm
def mFrac (up lo part : Int) : Int := if part = 0 then up / (Nat.gcd up.toNat lo.toNat : Int) else lo / (Nat.gcd up.toNat lo.toNat : Int)

set_option maxRecDepth 20000 in
set_option maxHeartbeats 4000000 in
theorem c_X7_fractionPart {l : Launch} {D : va_G} {Y : Nat → ClassId} {a : Int → Nat} (hI : zI a) (σ : zS) (up lo part : Int) (h1 : 0 ≤ up ∧ up ≤ 20000000000000000) (h2 : 1 ≤ lo ∧ lo ≤ 2000000000000) (h3 : 0 ≤ part ∧ part ≤ 1) : zMet l yX7_fractionPart cX7_fractionPart 12 (some .long) 0 (zPc D Y a σ [.long (jI up), .long (jI lo), .int (iI part)]) (zSl (mFrac up lo part)) zNo := by
  refine z_start rfl (Nat.le_of_ble_eq_true rfl) hI ?_
  intro p e s m below meth c ls C hr hlocks hl hP
  have hl : lv_has ls 12 [(0, .long (jI up)), (2, .long (jI lo)), (4, .int (iI part))] := hl
  refine z_lload_n C hl 1 rfl dX7_fractionPart_0 ?_
  refine z_lstore C [1, 2, 3, 0] [(0, .long (jI up)), (2, .long (jI lo)), (4, .int (iI part)), (5, .long (jI lo))] hl (by decide) rfl dX7_fractionPart_1 (fun ls hl => ?_)
  refine z_lload_n C hl 0 rfl dX7_fractionPart_3 ?_
  refine z_lstore C [1, 2, 3, 4, 0] [(0, .long (jI up)), (2, .long (jI lo)), (4, .int (iI part)), (5, .long (jI lo)), (7, .long (jI up))] hl (by decide) rfl dX7_fractionPart_4 (fun ls hl => ?_)
  refine z_iconst C dX7_fractionPart_6 ?_
  refine z_istore C [1, 2, 3, 4, 5, 0] [(0, .long (jI up)), (2, .long (jI lo)), (4, .int (iI part)), (5, .long (jI lo)), (7, .long (jI up)), (9, .int (iI 0))] hl (by decide) rfl dX7_fractionPart_7 (fun ls hl => ?_)
  have L_9 : ∀ (n : Nat) (x : Int) (y : Int) (st : Int) (ls : Array Slot), (1 ≤ x ∧ x ≤ 20000000000000000) → (0 ≤ y ∧ y ≤ 20000000000000000) → (0 ≤ st ∧ st ≤ 101) → (st = 0 ∨ y < x) → (Nat.gcd y.toNat x.toNat = Nat.gcd up.toNat lo.toNat) → (∃ L : Nat, x * y < 2 ^ L ∧ (L : Int) + st ≤ (if st = 0 then 96 else 97)) → ((1000 - st).toNat) < n → lv_has ls 12 [(0, .long (jI up)), (2, .long (jI lo)), (4, .int (iI part)), (5, .long (jI x)), (7, .long (jI y)), (9, .int (iI st))] → W p l e (zR 0) s m ([.long (jI up), .long (jI lo), .int (iI part)] : List Value).toArray below meth c s.heap [] 0 0 (MQ below (zSl (mFrac up lo part)) ([.long (jI up), .long (jI lo), .int (iI part)] : List Value).toArray s 0 0 zNo) (F0 m 9 ls []) := by
    intro n
    induction n with
    | zero =>
      intros; omega
    | succ n ih_9 =>
      intro x y st ls ia ib is i0 ig iL hm hl
      have hem : 0 < y → 0 ≤ x % y ∧ x % y < y := fun h => ⟨Int.emod_nonneg _ (by omega), Int.emod_lt_of_pos _ h⟩
      refine z_iload C hl 5 rfl dX7_fractionPart_9 ?_
      refine z_sipush C (by decide +kernel) dX7_fractionPart_11 ?_
      refine z_icmp_ge C 45 dX7_fractionPart_14 (by decide) ⟨by omega, by omega⟩ ⟨by omega, by omega⟩ (fun c_14 => ?_) (fun c_14 => ?_)
      · refine z_lload C hl 3 rfl dX7_fractionPart_45 ?_
        refine z_lconst C (z := 0) rfl dX7_fractionPart_47 ?_
        refine z_lif_ne C 56 dX7_fractionPart_48 dX7_fractionPart_49 (by decide) ⟨by omega, by omega⟩ ⟨by omega, by omega⟩ (fun c_49 => ?_) (fun c_49 => ?_)
        · refine z_iload C hl 2 rfl dX7_fractionPart_56 ?_
          refine z_if_ne C 65 dX7_fractionPart_58 (by decide) ⟨by omega, by omega⟩ (fun c_58 => ?_) (fun c_58 => ?_)
          · refine z_lload_n C hl 1 rfl dX7_fractionPart_65 ?_
            refine z_lload C hl 3 rfl dX7_fractionPart_66 ?_
            refine z_ldiv C ⟨by omega, by omega, by omega, by omega⟩ dX7_fractionPart_68 ?_
            exact z_retSl C hr hlocks (by first | (exfalso; obtain ⟨L, h5, h6⟩ := iL; omega) | (have e0 : y = 0 := (by omega); subst e0; have eg : (Nat.gcd up.toNat lo.toNat : Int) = x := (by rw [← ig]; simp; omega); unfold mFrac; rw [eg]; first | (rw [if_pos (by omega)]; done) | (rw [if_neg (by omega)]; done))) dX7_fractionPart_69
          · refine z_lload_n C hl 0 rfl dX7_fractionPart_61 ?_
            refine z_goto C 66 dX7_fractionPart_62 (by decide) ?_
            refine z_lload C hl 3 rfl dX7_fractionPart_66 ?_
            refine z_ldiv C ⟨by omega, by omega, by omega, by omega⟩ dX7_fractionPart_68 ?_
            exact z_retSl C hr hlocks (by first | (exfalso; obtain ⟨L, h5, h6⟩ := iL; omega) | (have e0 : y = 0 := (by omega); subst e0; have eg : (Nat.gcd up.toNat lo.toNat : Int) = x := (by rw [← ig]; simp; omega); unfold mFrac; rw [eg]; first | (rw [if_pos (by omega)]; done) | (rw [if_neg (by omega)]; done))) dX7_fractionPart_69
        · refine z_iload C hl 2 rfl dX7_fractionPart_52 ?_
          refine z_i2l C ⟨by omega, by omega⟩ dX7_fractionPart_54 ?_
          exact z_retSl C hr hlocks (by first | (exfalso; obtain ⟨L, h5, h6⟩ := iL; omega) | (have e0 : y = 0 := (by omega); subst e0; have eg : (Nat.gcd up.toNat lo.toNat : Int) = x := (by rw [← ig]; simp; omega); unfold mFrac; rw [eg]; first | (rw [if_pos (by omega)]; done) | (rw [if_neg (by omega)]; done))) dX7_fractionPart_55
      · refine z_lload C hl 4 rfl dX7_fractionPart_17 ?_
        refine z_lconst C (z := 0) rfl dX7_fractionPart_19 ?_
        refine z_lif_eq C 45 dX7_fractionPart_20 dX7_fractionPart_21 (by decide) ⟨by omega, by omega⟩ ⟨by omega, by omega⟩ (fun c_21 => ?_) (fun c_21 => ?_)
        · refine z_lload C hl 3 rfl dX7_fractionPart_45 ?_
          refine z_lconst C (z := 0) rfl dX7_fractionPart_47 ?_
          refine z_lif_ne C 56 dX7_fractionPart_48 dX7_fractionPart_49 (by decide) ⟨by omega, by omega⟩ ⟨by omega, by omega⟩ (fun c_49 => ?_) (fun c_49 => ?_)
          · refine z_iload C hl 2 rfl dX7_fractionPart_56 ?_
            refine z_if_ne C 65 dX7_fractionPart_58 (by decide) ⟨by omega, by omega⟩ (fun c_58 => ?_) (fun c_58 => ?_)
            · refine z_lload_n C hl 1 rfl dX7_fractionPart_65 ?_
              refine z_lload C hl 3 rfl dX7_fractionPart_66 ?_
              refine z_ldiv C ⟨by omega, by omega, by omega, by omega⟩ dX7_fractionPart_68 ?_
              exact z_retSl C hr hlocks (by first | (exfalso; obtain ⟨L, h5, h6⟩ := iL; omega) | (have e0 : y = 0 := (by omega); subst e0; have eg : (Nat.gcd up.toNat lo.toNat : Int) = x := (by rw [← ig]; simp; omega); unfold mFrac; rw [eg]; first | (rw [if_pos (by omega)]; done) | (rw [if_neg (by omega)]; done))) dX7_fractionPart_69
            · refine z_lload_n C hl 0 rfl dX7_fractionPart_61 ?_
              refine z_goto C 66 dX7_fractionPart_62 (by decide) ?_
              refine z_lload C hl 3 rfl dX7_fractionPart_66 ?_
              refine z_ldiv C ⟨by omega, by omega, by omega, by omega⟩ dX7_fractionPart_68 ?_
              exact z_retSl C hr hlocks (by first | (exfalso; obtain ⟨L, h5, h6⟩ := iL; omega) | (have e0 : y = 0 := (by omega); subst e0; have eg : (Nat.gcd up.toNat lo.toNat : Int) = x := (by rw [← ig]; simp; omega); unfold mFrac; rw [eg]; first | (rw [if_pos (by omega)]; done) | (rw [if_neg (by omega)]; done))) dX7_fractionPart_69
          · refine z_iload C hl 2 rfl dX7_fractionPart_52 ?_
            refine z_i2l C ⟨by omega, by omega⟩ dX7_fractionPart_54 ?_
            exact z_retSl C hr hlocks (by first | (exfalso; obtain ⟨L, h5, h6⟩ := iL; omega) | (have e0 : y = 0 := (by omega); subst e0; have eg : (Nat.gcd up.toNat lo.toNat : Int) = x := (by rw [← ig]; simp; omega); unfold mFrac; rw [eg]; first | (rw [if_pos (by omega)]; done) | (rw [if_neg (by omega)]; done))) dX7_fractionPart_55
        · refine z_lload C hl 3 rfl dX7_fractionPart_24 ?_
          refine z_lload C hl 4 rfl dX7_fractionPart_26 ?_
          refine z_lrem C ⟨by omega, by omega, by omega, by omega⟩ dX7_fractionPart_28 ?_
          refine z_topl (fun x1 hx1 => ?_)
          refine z_lstore C [1, 2, 3, 4, 5, 6, 0] [(0, .long (jI up)), (2, .long (jI lo)), (4, .int (iI part)), (5, .long (jI x)), (7, .long (jI y)), (9, .int (iI st)), (10, .long (jI x1))] hl (by decide) rfl dX7_fractionPart_29 (fun ls hl => ?_)
          refine z_lload C hl 4 rfl dX7_fractionPart_31 ?_
          refine z_lstore C [1, 2, 3, 0, 4, 5, 6] [(0, .long (jI up)), (2, .long (jI lo)), (4, .int (iI part)), (5, .long (jI y)), (7, .long (jI y)), (9, .int (iI st)), (10, .long (jI x1))] hl (by decide) rfl dX7_fractionPart_33 (fun ls hl => ?_)
          refine z_lload C hl 6 rfl dX7_fractionPart_35 ?_
          refine z_lstore C [1, 2, 3, 4, 0, 5, 6] [(0, .long (jI up)), (2, .long (jI lo)), (4, .int (iI part)), (5, .long (jI y)), (7, .long (jI x1)), (9, .int (iI st)), (10, .long (jI x1))] hl (by decide) rfl dX7_fractionPart_37 (fun ls hl => ?_)
          refine z_iinc C 5 [1, 2, 3, 4, 5, 0, 6] [(0, .long (jI up)), (2, .long (jI lo)), (4, .int (iI part)), (5, .long (jI y)), (7, .long (jI x1)), (9, .int (iI (st + 1))), (10, .long (jI x1))] hl rfl (by decide) rfl dX7_fractionPart_39 (fun ls hl => ?_)
          refine z_goto C 9 dX7_fractionPart_42 (by decide) ?_
          exact ih_9 y x1 (st + 1) ls (by omega) (by have := hem (by omega); omega) (by obtain ⟨L, h5, h6⟩ := iL; rcases i0 with h7 | h7; omega; have h8 := euc_step (by omega) h7 h5; omega) (by have := hem (by omega); omega) (by have hx2 := euc_g (x := x) (y := y) (by omega) (by omega); rw [hx1] at hx2; rw [hx2]; exact ig) (by obtain ⟨L, h5, h6⟩ := iL; rcases i0 with h7 | h7; exact ⟨L, (by have h9 := euc_0 (x := x) (y := y) (by omega) (by omega) h5; rw [hx1] at h9; exact h9), (by omega)⟩; have h8 := euc_step (by omega) h7 h5; rw [hx1] at h8; exact ⟨L - 1, h8.1, (by omega)⟩) (by omega) (lv_sub hl [0, 1, 2, 3, 4, 5] rfl)
  exact L_9 _ lo up 0 ls (by omega) (by omega) (by omega) (by omega) (by rfl) (by exact ⟨96, (by have hm := mulb (x := lo) (y := up) (A := 2000000000000) (B := 20000000000000000) (by omega) h1; have h90 : (2 : Int) ^ 96 = 79228162514264337593543950336 := (by decide +kernel); omega), (by simp)⟩) (Nat.lt_succ_self _) (lv_sub hl [0, 1, 2, 3, 4, 5] rfl)
