def kB0 (σ : zS) : Int := kBk σ 0 (σ 32 12 - 1).toNat (kW1 σ) (kW2 σ) 0
def kF1 (σ : zS) (e : Int) : Int := dpF (kW1 σ) (kW2 σ) (σ 32 9) (kQ σ 0) (σ 35 0) (kV σ (σ 32 12 - 1).toNat) (kW1 σ) (kW2 σ) 0 e
def kFe (σ : zS) (e : Int) : Prop := (0 ≤ e ∧ e < 25) ∧ kF1 σ e = kB0 σ ∧ ∀ j : Int, 0 ≤ j → j < e → kF1 σ j ≠ kB0 σ
def kCf (σ : zS) (f ch e : Int) : Prop := (ch = -6 ∧ f = -6 ∧ ∀ j : Int, 0 ≤ j → j < e → kF1 σ j = 1000000) ∨ ((0 ≤ ch ∧ ch < e) ∧ f = kF1 σ ch ∧ kF1 σ ch < 1000000 ∧ ∀ j : Int, 0 ≤ j → j < e → kF1 σ ch ≤ kF1 σ j ∧ (j < ch → kF1 σ ch < kF1 σ j))
theorem kCf_n {σ : zS} {f ch e : Int} (h : kCf σ f ch e) (hn : kF1 σ e = 1000000) : kCf σ f ch (e + 1) := by
  rcases h with ⟨h1, h2, h3⟩ | ⟨h1, h2, h3, h4⟩
  · exact Or.inl ⟨h1, h2, fun j a b => if hj : j = e then by rw [hj]; exact hn else h3 j a (by omega)⟩
  · exact Or.inr ⟨by omega, h2, h3, fun j a b => if hj : j = e then by rw [hj]; omega else h4 j a (by omega)⟩
theorem kCf_s {σ : zS} {f ch e : Int} (h : kCf σ f ch e) (hb : ¬ ch = -6) (hn : ¬ kF1 σ e < f) : kCf σ f ch (e + 1) := by
  rcases h with ⟨h1, h2, h3⟩ | ⟨h1, h2, h3, h4⟩
  · omega
  · exact Or.inr ⟨by omega, h2, h3, fun j a b => if hj : j = e then by rw [hj]; omega else h4 j a (by omega)⟩
theorem kCf_y {σ : zS} {f ch e : Int} (h : kCf σ f ch e) (h0 : 0 ≤ e) (hb : kF1 σ e < 1000000) (hn : ch = -6 ∨ kF1 σ e < f) : kCf σ (kF1 σ e) e (e + 1) := by
  refine Or.inr ⟨by omega, rfl, hb, fun j a b => ?_⟩
  by_cases hj : j = e
  · rw [hj]
    omega
  · rcases h with ⟨h1, h2, h3⟩ | ⟨h1, h2, h3, h4⟩
    · have := h3 j a (by omega)
      omega
    · have := h4 j a (by omega)
      omega
theorem kCf_end {σ : zS} {f ch : Int} (h : kCf σ f ch 25) (hb : kB0 σ < 1000000) : 0 ≤ ch ∧ f = kB0 σ ∧ kFe σ ch := by
  rcases mMnS_at 1000000 (kF1 σ) 25 with g | ⟨i, g1, g2, g3⟩
  · have : mMnS 1000000 (kF1 σ) 25 = kB0 σ := rfl
    omega
  · have g4 : kF1 σ i = kB0 σ := g3
    rcases h with ⟨h1, h2, h3⟩ | ⟨h1, h2, h3, h4⟩
    · have := h3 i g1 g2
      omega
    · have a1 := h4 i g1 g2
      have a2 : kB0 σ ≤ kF1 σ ch := mMnS_lf 1000000 (kF1 σ) 25 ch h1.1 h1.2
      refine ⟨h1.1, by omega, h1, by omega, fun j b1 b2 => ?_⟩
      have := h4 j b1 (by omega)
      omega
theorem kF1_n {σ : zS} {e : Int} (h : mWind (kW1 σ) (kW1 σ) (e / 5) < 0 ∨ mWind (kW2 σ) (kW2 σ) (e % 5) < 0 ∨ σ 32 9 < mHeat 0 (σ 35 0)) : kF1 σ e = 1000000 := if_pos h
theorem kF1_y {σ : zS} {e : Int} (h : ¬ (mWind (kW1 σ) (kW1 σ) (e / 5) < 0 ∨ mWind (kW2 σ) (kW2 σ) (e % 5) < 0 ∨ σ 32 9 < mHeat 0 (σ 35 0))) : kF1 σ e = kQ σ 0 e + kV σ (σ 32 12 - 1).toNat (mWind (kW1 σ) (kW1 σ) (e / 5)) (mWind (kW2 σ) (kW2 σ) (e % 5)) (mHeat 0 (σ 35 0)) := if_neg h
theorem kTs_c {σ τ : zS} {p1 p2 : Int} (h1 : τ p1 = σ p1) (h2 : τ p2 = σ p2) : kTs τ p1 p2 = kTs σ p1 p2 := by
  funext e b
  unfold kTs
  rw [h1, h2]
set_option maxRecDepth 20000 in
set_option maxHeartbeats 4000000 in
theorem c_X5_chooseFirst {l : Launch} {D : va_G} {Y : Nat → ClassId} {a : Int → Nat} (hI : zI a) (σ : zS)  (hn : 1 ≤ σ 32 12 ∧ σ 32 12 ≤ 24) (hg : ∀ i : Int, 0 ≤ i → i < 24 → -1 ≤ σ 35 i ∧ σ 35 i ≤ 6) (hho : 5 ≤ σ 32 9 ∧ σ 32 9 ≤ 20) (hpz : 0 ≤ σ 32 10 ∧ σ 32 10 ≤ 99) (hq : σ 15 12 = σ 32 9) (hw1 : 0 ≤ σ 15 13 ∧ σ 15 13 ≤ 9) (hw2 : 0 ≤ σ 15 14 ∧ σ 15 14 ≤ 9) (hbf : (σ 15 8 = 21 ∧ σ 15 9 = 22) ∨ (σ 15 8 = 22 ∧ σ 15 9 = 21)) (hpt : ∀ e : Int, 0 ≤ e → e < 25 → 0 ≤ σ 16 e ∧ σ 16 e ≤ 160) (hb1 : jBd σ 21) (hb2 : jBd σ 22) (hhb : kHb σ σ (σ 32 12)) (hN : kN σ σ 1 (σ 32 12 - 1).toNat) : zMet l yX5_chooseFirst cX5_chooseFirst 9 (some .int) 3 (zPc D Y a σ [.ref (a 15), .int (iI (σ 35 0))]) (zQi D Y a (fun r τ => ((∀ c : Int, c ≠ 15 → τ c = σ c) ∧ ∀ j : Int, j ≠ 0 → τ 15 j = σ 15 j) ∧ τ 15 0 = kB0 σ ∧ kFe σ r)) (inA a) := by
  refine z_start rfl (Nat.le_of_ble_eq_true rfl) hI ?_
  intro p e s m below meth c ls C hr hlocks hl hP
  have hS : va_S (inA a) s.heap s.heap [] := va_S.rf
  have hl : lv_has ls 9 [(0, .ref (a 15)), (1, .int (iI (σ 35 0)))] := hl
  have hg0 := hg 0 (by omega) (by omega)
  have hh0 := mHard_b (σ 35 0)
  have ek1 : kW1 σ = σ 15 13 := rfl
  have ek2 : kW2 σ = σ 15 14 := rfl
  have hm0 := mHeat_0 (σ 35 0)
  have hfin : kB0 σ ≤ 241 + 340 * (σ 32 12 - 1).toNat := kB_fin hw1.1 hw2.1 hho.1 hpz 0 (σ 32 12 - 1).toNat
  skip
  refine z_iload_n C hl 1 rfl dX5_chooseFirst_0 ?_
  refine z_sSi C hP (As := [.int (iI (σ 35 0))]) lk_X5_85 (c_X0_hardOf hI σ (σ 35 0) ⟨by omega, by omega⟩) rfl hl.1 rfl (Nat.le_of_ble_eq_true rfl) ⟨Nat.le_of_ble_eq_true rfl, Nat.le_of_ble_eq_true rfl⟩ ⟨Nat.zero_le _, Nat.zero_le _⟩ dX5_chooseFirst_1 ?_
  refine z_istore_n C [1, 2, 0] [(0, .ref (a 15)), (1, .int (iI (σ 35 0))), (2, .int (iI (mHard (σ 35 0))))] hl (by decide) rfl dX5_chooseFirst_4 (fun ls hl => ?_)
  refine z_iconst C dX5_chooseFirst_5 ?_
  refine z_iload_n C hl 1 rfl dX5_chooseFirst_6 ?_
  refine z_sSi C hP (As := [.int (iI 0), .int (iI (σ 35 0))]) lk_X5_94 (c_X0_heatBehind hI σ 0 (σ 35 0) ⟨by decide, by decide⟩ ⟨by omega, by omega⟩) rfl hl.1 rfl (Nat.le_of_ble_eq_true rfl) ⟨Nat.le_of_ble_eq_true rfl, Nat.le_of_ble_eq_true rfl⟩ ⟨Nat.zero_le _, Nat.zero_le _⟩ dX5_chooseFirst_7 ?_
  refine z_istore_n C [1, 2, 3, 0] [(0, .ref (a 15)), (1, .int (iI (σ 35 0))), (2, .int (iI (mHard (σ 35 0)))), (3, .int (iI (mHeat 0 (σ 35 0))))] hl (by decide) rfl dX5_chooseFirst_10 (fun ls hl => ?_)
  refine z_bipush C (by decide +kernel) dX5_chooseFirst_11 ?_
  refine z_istore C [1, 2, 3, 4, 0] [(0, .ref (a 15)), (1, .int (iI (σ 35 0))), (2, .int (iI (mHard (σ 35 0)))), (3, .int (iI (mHeat 0 (σ 35 0)))), (4, .int (iI (-6)))] hl (by decide) rfl dX5_chooseFirst_13 (fun ls hl => ?_)
  refine z_aload_n C hl 0 rfl dX5_chooseFirst_15 ?_
  refine z_bipush C (by decide +kernel) dX5_chooseFirst_16 ?_
  refine zp_X5_125 C hP hS dX5_chooseFirst_18 (fun H locs hP hS => ?_)
  obtain ⟨t1, et1⟩ : ∃ z : zS, z = zU σ 15 0 (-6) := ⟨_, rfl⟩
  rw [← et1] at hP
  refine z_iconst C dX5_chooseFirst_21 ?_
  refine z_istore C [1, 2, 3, 4, 5, 0] [(0, .ref (a 15)), (1, .int (iI (σ 35 0))), (2, .int (iI (mHard (σ 35 0)))), (3, .int (iI (mHeat 0 (σ 35 0)))), (4, .int (iI (-6))), (5, .int (iI 0))] hl (by decide) rfl dX5_chooseFirst_22 (fun ls hl => ?_)
  have L_24 : ∀ (n : Nat) (ch : Int) (ee : Int) (τ : zS) (H : Heap) (locs : List Loc) (hP : GP D Y a τ H) (hS : va_S (inA a) s.heap H locs) (ls : Array Slot), (0 ≤ ee ∧ ee ≤ 25) → ((∀ c : Int, c ≠ 15 → τ c = σ c) ∧ ∀ j : Int, j ≠ 0 → τ 15 j = σ 15 j) → (kCf σ (τ 15 0) ch ee) → ((-6 ≤ τ 15 0 ∧ τ 15 0 ≤ 1000000000) ∧ -6 ≤ ch ∧ ch < 25) → ((25 - ee).toNat) < n → lv_has ls 9 [(0, .ref (a 15)), (1, .int (iI (σ 35 0))), (2, .int (iI (mHard (σ 35 0)))), (3, .int (iI (mHeat 0 (σ 35 0)))), (4, .int (iI ch)), (5, .int (iI ee))] → W p l e (zR 3) s m ([.ref (a 15), .int (iI (σ 35 0))] : List Value).toArray below meth c H locs 0 0 (MQ below (zQi D Y a (fun r τ => ((∀ c : Int, c ≠ 15 → τ c = σ c) ∧ ∀ j : Int, j ≠ 0 → τ 15 j = σ 15 j) ∧ τ 15 0 = kB0 σ ∧ kFe σ r)) ([.ref (a 15), .int (iI (σ 35 0))] : List Value).toArray s 0 0 (inA a)) (F0 m 24 ls []) := by
    intro n
    induction n with
    | zero =>
      intros; omega
    | succ n ih_24 =>
      intro ch ee τ H locs hP hS ls ie gτ iC ib hm hl
      refine z_iload C hl 5 rfl dX5_chooseFirst_24 ?_
      refine z_bipush C (by decide +kernel) dX5_chooseFirst_26 ?_
      refine z_icmp_ge C 145 dX5_chooseFirst_28 (by decide) ⟨by omega, by omega⟩ ⟨by omega, by omega⟩ (fun c_28 => ?_) (fun c_28 => ?_)
      · have he25 : ee = 25 := by omega
        subst he25
        have hend := kCf_end iC (by omega)
        refine z_iload C hl 4 rfl dX5_chooseFirst_145 ?_
        exact z_retQi C hP hS hr hlocks rfl (by exact ⟨gτ, hend.2.1, hend.2.2⟩) dX5_chooseFirst_147
      · refine z_aload_n C hl 0 rfl dX5_chooseFirst_31 ?_
        refine zg_X5_51 C hP dX5_chooseFirst_32 ?_
        rw [show τ 15 13 = σ 15 13 from by rw [gτ.2 13 (by omega)]]
        refine z_aload_n C hl 0 rfl dX5_chooseFirst_35 ?_
        refine zg_X5_51 C hP dX5_chooseFirst_36 ?_
        rw [show τ 15 13 = σ 15 13 from by rw [gτ.2 13 (by omega)]]
        refine z_iload C hl 5 rfl dX5_chooseFirst_39 ?_
        refine z_iconst C dX5_chooseFirst_41 ?_
        refine z_idiv C ⟨by omega, by omega, by omega, by omega⟩ dX5_chooseFirst_42 ?_
        refine z_sSi C hP (As := [.int (iI (σ 15 13)), .int (iI (σ 15 13)), .int (iI (ee / 5))]) lk_X5_117 (c_X4_windBehind hI τ (σ 15 13) (σ 15 13) (ee / 5) hw1 ⟨by omega, by omega⟩ ⟨by omega, by omega⟩) rfl hl.1 rfl (Nat.le_of_ble_eq_true rfl) ⟨Nat.le_of_ble_eq_true rfl, Nat.le_of_ble_eq_true rfl⟩ ⟨Nat.zero_le _, Nat.zero_le _⟩ dX5_chooseFirst_43 ?_
        have w1 := mWind_b (now := σ 15 13) (e := ee / 5) hw1 hw1 (by omega)
        refine z_topi (fun x2 hx2 => ?_)
        refine z_istore C [1, 2, 3, 4, 5, 6, 0] [(0, .ref (a 15)), (1, .int (iI (σ 35 0))), (2, .int (iI (mHard (σ 35 0)))), (3, .int (iI (mHeat 0 (σ 35 0)))), (4, .int (iI ch)), (5, .int (iI ee)), (6, .int (iI x2))] hl (by decide) rfl dX5_chooseFirst_46 (fun ls hl => ?_)
        refine z_aload_n C hl 0 rfl dX5_chooseFirst_48 ?_
        refine zg_X5_54 C hP dX5_chooseFirst_49 ?_
        rw [show τ 15 14 = σ 15 14 from by rw [gτ.2 14 (by omega)]]
        refine z_aload_n C hl 0 rfl dX5_chooseFirst_52 ?_
        refine zg_X5_54 C hP dX5_chooseFirst_53 ?_
        rw [show τ 15 14 = σ 15 14 from by rw [gτ.2 14 (by omega)]]
        refine z_iload C hl 5 rfl dX5_chooseFirst_56 ?_
        refine z_iconst C dX5_chooseFirst_58 ?_
        refine z_irem C ⟨by omega, by omega, by omega, by omega⟩ dX5_chooseFirst_59 ?_
        refine z_sSi C hP (As := [.int (iI (σ 15 14)), .int (iI (σ 15 14)), .int (iI (ee % 5))]) lk_X5_117 (c_X4_windBehind hI τ (σ 15 14) (σ 15 14) (ee % 5) hw2 ⟨by omega, by omega⟩ ⟨by omega, by omega⟩) rfl hl.1 rfl (Nat.le_of_ble_eq_true rfl) ⟨Nat.le_of_ble_eq_true rfl, Nat.le_of_ble_eq_true rfl⟩ ⟨Nat.zero_le _, Nat.zero_le _⟩ dX5_chooseFirst_60 ?_
        have w2 := mWind_b (now := σ 15 14) (e := ee % 5) hw2 hw2 (by omega)
        refine z_topi (fun x3 hx3 => ?_)
        refine z_istore C [1, 2, 3, 4, 5, 6, 7, 0] [(0, .ref (a 15)), (1, .int (iI (σ 35 0))), (2, .int (iI (mHard (σ 35 0)))), (3, .int (iI (mHeat 0 (σ 35 0)))), (4, .int (iI ch)), (5, .int (iI ee)), (6, .int (iI x2)), (7, .int (iI x3))] hl (by decide) rfl dX5_chooseFirst_63 (fun ls hl => ?_)
        refine z_iload C hl 6 rfl dX5_chooseFirst_65 ?_
        refine z_if_lt C 139 dX5_chooseFirst_67 (by decide) ⟨by omega, by omega⟩ (fun c_67 => ?_) (fun c_67 => ?_)
        · refine z_iinc C 5 [1, 2, 3, 4, 5, 0, 6, 7] [(0, .ref (a 15)), (1, .int (iI (σ 35 0))), (2, .int (iI (mHard (σ 35 0)))), (3, .int (iI (mHeat 0 (σ 35 0)))), (4, .int (iI ch)), (5, .int (iI (ee + 1))), (6, .int (iI x2)), (7, .int (iI x3))] hl rfl (by decide) rfl dX5_chooseFirst_139 (fun ls hl => ?_)
          refine z_goto C 24 dX5_chooseFirst_142 (by decide) ?_
          exact ih_24 ch (ee + 1) τ H locs hP hS ls (by omega) (by first | exact gτ | exact ⟨fun c hc => (by rw [zU_cell hc]; exact gτ.1 c hc), fun j h1 => (by rw [zU_place h1]; exact gτ.2 j h1)⟩) (by first | exact kCf_n iC (kF1_n (by rw [ek1, ek2]; omega)) | exact kCf_s iC (by omega) (by omega) | (have hy := kCf_y iC ie.1 (by omega) (by omega); rw [zU_same]; rw [hk1, hnoLocal] at hy; exact hy)) (by first | exact ib | (rw [zU_same]; omega)) (by omega) (lv_sub hl [0, 1, 2, 3, 4, 5] rfl)
        · refine z_iload C hl 7 rfl dX5_chooseFirst_70 ?_
          refine z_if_lt C 139 dX5_chooseFirst_72 (by decide) ⟨by omega, by omega⟩ (fun c_72 => ?_) (fun c_72 => ?_)
          · refine z_iinc C 5 [1, 2, 3, 4, 5, 0, 6, 7] [(0, .ref (a 15)), (1, .int (iI (σ 35 0))), (2, .int (iI (mHard (σ 35 0)))), (3, .int (iI (mHeat 0 (σ 35 0)))), (4, .int (iI ch)), (5, .int (iI (ee + 1))), (6, .int (iI x2)), (7, .int (iI x3))] hl rfl (by decide) rfl dX5_chooseFirst_139 (fun ls hl => ?_)
            refine z_goto C 24 dX5_chooseFirst_142 (by decide) ?_
            exact ih_24 ch (ee + 1) τ H locs hP hS ls (by omega) (by first | exact gτ | exact ⟨fun c hc => (by rw [zU_cell hc]; exact gτ.1 c hc), fun j h1 => (by rw [zU_place h1]; exact gτ.2 j h1)⟩) (by first | exact kCf_n iC (kF1_n (by rw [ek1, ek2]; omega)) | exact kCf_s iC (by omega) (by omega) | (have hy := kCf_y iC ie.1 (by omega) (by omega); rw [zU_same]; rw [hk1, hnoLocal] at hy; exact hy)) (by first | exact ib | (rw [zU_same]; omega)) (by omega) (lv_sub hl [0, 1, 2, 3, 4, 5] rfl)
          · refine z_iload_n C hl 3 rfl dX5_chooseFirst_75 ?_
            refine z_aload_n C hl 0 rfl dX5_chooseFirst_76 ?_
            refine zg_X5_45 C hP dX5_chooseFirst_77 ?_
            rw [show τ 15 12 = σ 15 12 from by rw [gτ.2 12 (by omega)]]
            refine z_icmp_le C 86 dX5_chooseFirst_80 (by decide) ⟨by omega, by omega⟩ ⟨by omega, by omega⟩ (fun c_80 => ?_) (fun c_80 => ?_)
            · have hpe := hpt ee (by omega) (by omega)
              refine z_iload_n C hl 2 rfl dX5_chooseFirst_86 ?_
              refine z_aload_n C hl 0 rfl dX5_chooseFirst_87 ?_
              refine zg_X5_9 C hP dX5_chooseFirst_88 ?_
              refine z_iload C hl 5 rfl dX5_chooseFirst_91 ?_
              refine z_iald C hP ia_16 ⟨by omega, by omega⟩ dX5_chooseFirst_93 ?_
              rw [show τ 16 ee = σ 16 ee from by rw [gτ.1 16 (by omega)]]
              refine z_sSi C hP (As := [.int (iI (mHard (σ 35 0))), .int (iI (σ 16 ee))]) lk_X5_114 (c_X0_secondsOf hI τ (mHard (σ 35 0)) (σ 16 ee) (by omega) (by omega)) rfl hl.1 rfl (Nat.le_of_ble_eq_true rfl) ⟨Nat.le_of_ble_eq_true rfl, Nat.le_of_ble_eq_true rfl⟩ ⟨Nat.zero_le _, Nat.zero_le _⟩ dX5_chooseFirst_94 ?_
              have hqb : 1 ≤ mSec (mHard (σ 35 0)) (σ 16 ee) ∧ mSec (mHard (σ 35 0)) (σ 16 ee) ≤ 241 := mSec_b (by omega)
              refine z_aload_n C hl 0 rfl dX5_chooseFirst_97 ?_
              refine zg_X5_27 C hP dX5_chooseFirst_98 ?_
              rw [show τ 15 8 = σ 15 8 from by rw [gτ.2 8 (by omega)]]
              refine z_iload_n C hl 3 rfl dX5_chooseFirst_101 ?_
              refine z_iload C hl 6 rfl dX5_chooseFirst_102 ?_
              have hmc : mCell (mHeat 0 (σ 35 0)) x2 x3 = (mHeat 0 (σ 35 0) * 10 + x2) * 10 + x3 := rfl
              refine z_iload C hl 7 rfl dX5_chooseFirst_104 ?_
              refine z_sSi C hP (As := [.int (iI (mHeat 0 (σ 35 0))), .int (iI x2), .int (iI x3)]) lk_X5_107 (c_X5_cellOf hI τ (mHeat 0 (σ 35 0)) x2 x3 ) rfl hl.1 rfl (Nat.le_of_ble_eq_true rfl) ⟨Nat.le_of_ble_eq_true rfl, Nat.le_of_ble_eq_true rfl⟩ ⟨Nat.zero_le _, Nat.zero_le _⟩ dX5_chooseFirst_106 ?_
              refine z_iald C hP (ia_on (by omega)) ⟨by omega, by omega⟩ dX5_chooseFirst_109 ?_
              rw [show τ (σ 15 8) (mCell (mHeat 0 (σ 35 0)) x2 x3) = σ (σ 15 8) (mCell (mHeat 0 (σ 35 0)) x2 x3) from by rw [gτ.1 (σ 15 8) (by omega)]]
              refine z_iadd C dX5_chooseFirst_110 ?_
              have hNe := hN x2 x3 (mHeat 0 (σ 35 0)) ⟨by omega, by rw [← hx2]; unfold mWind; omega⟩ ⟨by omega, by rw [← hx3]; unfold mWind; omega⟩ ⟨by omega, by omega⟩ (hhb.2 0 (by decide) (by omega) 0 (by decide) (by omega) (Or.inl rfl) (by omega))
              have hk1 : kF1 σ ee = mSec (mHard (σ 35 0)) (σ 16 ee) + σ (σ 15 8) (mCell (mHeat 0 (σ 35 0)) x2 x3) := by rw [kF1_y (by rw [ek1, ek2]; omega), ek1, ek2, hx2, hx3, hNe]; rfl
              have hvf := dpV_fin (n := σ 32 12) (g := σ 35) (q := kQ σ) (pz := σ 32 10) (w1 := kW1 σ) (w2 := kW2 σ) (hot := σ 32 9) (by omega) (by omega) hho.1 (fun k e => (kQ_b σ k e).2) hpz.2 (σ 32 12 - 1).toNat x2 x3 (mHeat 0 (σ 35 0))
              have hvf2 : kV σ (σ 32 12 - 1).toNat x2 x3 (mHeat 0 (σ 35 0)) ≤ 340 * (σ 32 12 - 1).toNat := hvf
              have hvg := kV_b hpz (σ 32 12 - 1).toNat x2 x3 (mHeat 0 (σ 35 0))
              refine z_topi (fun x4 hx4 => ?_)
              refine z_istore C [1, 2, 3, 4, 5, 6, 7, 8, 0] [(0, .ref (a 15)), (1, .int (iI (σ 35 0))), (2, .int (iI (mHard (σ 35 0)))), (3, .int (iI (mHeat 0 (σ 35 0)))), (4, .int (iI ch)), (5, .int (iI ee)), (6, .int (iI x2)), (7, .int (iI x3)), (8, .int (iI x4))] hl (by decide) rfl dX5_chooseFirst_111 (fun ls hl => ?_)
              refine z_iload C hl 4 rfl dX5_chooseFirst_113 ?_
              refine z_bipush C (by decide +kernel) dX5_chooseFirst_115 ?_
              refine z_icmp_eq C 129 dX5_chooseFirst_117 (by decide) ⟨by omega, by omega⟩ ⟨by omega, by omega⟩ (fun c_117 => ?_) (fun c_117 => ?_)
              · refine z_aload_n C hl 0 rfl dX5_chooseFirst_129 ?_
                refine z_iload C hl 8 rfl dX5_chooseFirst_130 ?_
                refine zp_X5_125 C hP hS dX5_chooseFirst_132 (fun H locs hP hS => ?_)
                obtain ⟨t5, et5⟩ : ∃ z : zS, z = zU τ 15 0 x4 := ⟨_, rfl⟩
                rw [← et5] at hP
                refine z_iload C hl 5 rfl dX5_chooseFirst_135 ?_
                refine z_istore C [1, 2, 3, 4, 0, 5, 6, 7, 8] [(0, .ref (a 15)), (1, .int (iI (σ 35 0))), (2, .int (iI (mHard (σ 35 0)))), (3, .int (iI (mHeat 0 (σ 35 0)))), (4, .int (iI ee)), (5, .int (iI ee)), (6, .int (iI x2)), (7, .int (iI x3)), (8, .int (iI x4))] hl (by decide) rfl dX5_chooseFirst_137 (fun ls hl => ?_)
                refine z_iinc C 5 [1, 2, 3, 4, 5, 0, 6, 7, 8] [(0, .ref (a 15)), (1, .int (iI (σ 35 0))), (2, .int (iI (mHard (σ 35 0)))), (3, .int (iI (mHeat 0 (σ 35 0)))), (4, .int (iI ee)), (5, .int (iI (ee + 1))), (6, .int (iI x2)), (7, .int (iI x3)), (8, .int (iI x4))] hl rfl (by decide) rfl dX5_chooseFirst_139 (fun ls hl => ?_)
                refine z_goto C 24 dX5_chooseFirst_142 (by decide) ?_
                exact ih_24 ee (ee + 1) t5 H locs hP hS ls (by omega) (by first | exact gτ | exact ⟨fun c hc => (by rw [et5, zU_cell hc]; exact gτ.1 c hc), fun j h1 => (by rw [et5, zU_place h1]; exact gτ.2 j h1)⟩) (by first | exact kCf_n iC (kF1_n (by rw [ek1, ek2]; omega)) | exact kCf_s iC (by omega) (by omega) | (have hy := kCf_y iC ie.1 (by omega) (by omega); rw [et5, zU_same]; rw [hk1, hx4] at hy; exact hy)) (by first | exact ib | (rw [et5, zU_same]; omega)) (by omega) (lv_sub hl [0, 1, 2, 3, 4, 5] rfl)
              · refine z_iload C hl 8 rfl dX5_chooseFirst_120 ?_
                refine z_aload_n C hl 0 rfl dX5_chooseFirst_122 ?_
                refine zg_X5_125 C hP dX5_chooseFirst_123 ?_
                refine z_icmp_ge C 139 dX5_chooseFirst_126 (by decide) ⟨by omega, by omega⟩ ⟨by omega, by omega⟩ (fun c_126 => ?_) (fun c_126 => ?_)
                · refine z_iinc C 5 [1, 2, 3, 4, 5, 0, 6, 7, 8] [(0, .ref (a 15)), (1, .int (iI (σ 35 0))), (2, .int (iI (mHard (σ 35 0)))), (3, .int (iI (mHeat 0 (σ 35 0)))), (4, .int (iI ch)), (5, .int (iI (ee + 1))), (6, .int (iI x2)), (7, .int (iI x3)), (8, .int (iI x4))] hl rfl (by decide) rfl dX5_chooseFirst_139 (fun ls hl => ?_)
                  refine z_goto C 24 dX5_chooseFirst_142 (by decide) ?_
                  exact ih_24 ch (ee + 1) τ H locs hP hS ls (by omega) (by first | exact gτ | exact ⟨fun c hc => (by rw [zU_cell hc]; exact gτ.1 c hc), fun j h1 => (by rw [zU_place h1]; exact gτ.2 j h1)⟩) (by first | exact kCf_n iC (kF1_n (by rw [ek1, ek2]; omega)) | exact kCf_s iC (by omega) (by omega) | (have hy := kCf_y iC ie.1 (by omega) (by omega); rw [zU_same]; rw [hk1, hx4] at hy; exact hy)) (by first | exact ib | (rw [zU_same]; omega)) (by omega) (lv_sub hl [0, 1, 2, 3, 4, 5] rfl)
                · refine z_aload_n C hl 0 rfl dX5_chooseFirst_129 ?_
                  refine z_iload C hl 8 rfl dX5_chooseFirst_130 ?_
                  refine zp_X5_125 C hP hS dX5_chooseFirst_132 (fun H locs hP hS => ?_)
                  obtain ⟨t6, et6⟩ : ∃ z : zS, z = zU τ 15 0 x4 := ⟨_, rfl⟩
                  rw [← et6] at hP
                  refine z_iload C hl 5 rfl dX5_chooseFirst_135 ?_
                  refine z_istore C [1, 2, 3, 4, 0, 5, 6, 7, 8] [(0, .ref (a 15)), (1, .int (iI (σ 35 0))), (2, .int (iI (mHard (σ 35 0)))), (3, .int (iI (mHeat 0 (σ 35 0)))), (4, .int (iI ee)), (5, .int (iI ee)), (6, .int (iI x2)), (7, .int (iI x3)), (8, .int (iI x4))] hl (by decide) rfl dX5_chooseFirst_137 (fun ls hl => ?_)
                  refine z_iinc C 5 [1, 2, 3, 4, 5, 0, 6, 7, 8] [(0, .ref (a 15)), (1, .int (iI (σ 35 0))), (2, .int (iI (mHard (σ 35 0)))), (3, .int (iI (mHeat 0 (σ 35 0)))), (4, .int (iI ee)), (5, .int (iI (ee + 1))), (6, .int (iI x2)), (7, .int (iI x3)), (8, .int (iI x4))] hl rfl (by decide) rfl dX5_chooseFirst_139 (fun ls hl => ?_)
                  refine z_goto C 24 dX5_chooseFirst_142 (by decide) ?_
                  exact ih_24 ee (ee + 1) t6 H locs hP hS ls (by omega) (by first | exact gτ | exact ⟨fun c hc => (by rw [et6, zU_cell hc]; exact gτ.1 c hc), fun j h1 => (by rw [et6, zU_place h1]; exact gτ.2 j h1)⟩) (by first | exact kCf_n iC (kF1_n (by rw [ek1, ek2]; omega)) | exact kCf_s iC (by omega) (by omega) | (have hy := kCf_y iC ie.1 (by omega) (by omega); rw [et6, zU_same]; rw [hk1, hx4] at hy; exact hy)) (by first | exact ib | (rw [et6, zU_same]; omega)) (by omega) (lv_sub hl [0, 1, 2, 3, 4, 5] rfl)
            · refine z_goto C 139 dX5_chooseFirst_83 (by decide) ?_
              refine z_iinc C 5 [1, 2, 3, 4, 5, 0, 6, 7] [(0, .ref (a 15)), (1, .int (iI (σ 35 0))), (2, .int (iI (mHard (σ 35 0)))), (3, .int (iI (mHeat 0 (σ 35 0)))), (4, .int (iI ch)), (5, .int (iI (ee + 1))), (6, .int (iI x2)), (7, .int (iI x3))] hl rfl (by decide) rfl dX5_chooseFirst_139 (fun ls hl => ?_)
              refine z_goto C 24 dX5_chooseFirst_142 (by decide) ?_
              exact ih_24 ch (ee + 1) τ H locs hP hS ls (by omega) (by first | exact gτ | exact ⟨fun c hc => (by rw [zU_cell hc]; exact gτ.1 c hc), fun j h1 => (by rw [zU_place h1]; exact gτ.2 j h1)⟩) (by first | exact kCf_n iC (kF1_n (by rw [ek1, ek2]; omega)) | exact kCf_s iC (by omega) (by omega) | (have hy := kCf_y iC ie.1 (by omega) (by omega); rw [zU_same]; rw [hk1, hnoLocal] at hy; exact hy)) (by first | exact ib | (rw [zU_same]; omega)) (by omega) (lv_sub hl [0, 1, 2, 3, 4, 5] rfl)
  exact L_24 _ (-6) 0 t1 _ _ hP hS ls (by omega) (by exact ⟨fun c hc => (by rw [et1, zU_cell hc]), fun j h1 => (by rw [et1, zU_place h1])⟩) (by rw [et1, zU_same]; exact Or.inl ⟨rfl, rfl, fun j h1 h2 => (by omega)⟩) (by rw [et1, zU_same]; decide) (Nat.lt_succ_self _) (lv_sub hl [0, 1, 2, 3, 4, 5] rfl)
