def kB0 (σ : zS) : Int := kBk σ 0 (σ 32 12 - 1).toNat (kW1 σ) (kW2 σ) 0
def kF1 (σ : zS) (e : Int) : Int := dpF (kW1 σ) (kW2 σ) (σ 32 9) (kQ σ 0) (σ 35 0) (kV σ (σ 32 12 - 1).toNat) (kW1 σ) (kW2 σ) 0 e
def kFe (σ : zS) (e : Int) : Prop := (0 ≤ e ∧ e < 25) ∧ kF1 σ e = kB0 σ ∧ ∀ j : Int, 0 ≤ j → j < e → kF1 σ j ≠ kB0 σ
def kCf (σ : zS) (f ch e : Int) : Prop := (ch = -6 ∧ f = 1000000000 ∧ ∀ j : Int, 0 ≤ j → j < e → kF1 σ j = 1000000) ∨ ((0 ≤ ch ∧ ch < e) ∧ f = kF1 σ ch ∧ kF1 σ ch < 1000000 ∧ ∀ j : Int, 0 ≤ j → j < e → kF1 σ ch ≤ kF1 σ j ∧ (j < ch → kF1 σ ch < kF1 σ j))
theorem kCf_n {σ : zS} {f ch e : Int} (h : kCf σ f ch e) (hn : kF1 σ e = 1000000) : kCf σ f ch (e + 1) := by
  rcases h with ⟨h1, h2, h3⟩ | ⟨h1, h2, h3, h4⟩
  · exact Or.inl ⟨h1, h2, fun j a b => if hj : j = e then by rw [hj]; exact hn else h3 j a (by omega)⟩
  · exact Or.inr ⟨by omega, h2, h3, fun j a b => if hj : j = e then by rw [hj]; omega else h4 j a (by omega)⟩
theorem kCf_s {σ : zS} {f ch e : Int} (h : kCf σ f ch e) (hb : kF1 σ e < 1000000) (hn : ¬ kF1 σ e < f) : kCf σ f ch (e + 1) := by
  rcases h with ⟨h1, h2, h3⟩ | ⟨h1, h2, h3, h4⟩
  · omega
  · exact Or.inr ⟨by omega, h2, h3, fun j a b => if hj : j = e then by rw [hj]; omega else h4 j a (by omega)⟩
theorem kCf_y {σ : zS} {f ch e : Int} (h : kCf σ f ch e) (h0 : 0 ≤ e) (hb : kF1 σ e < 1000000) (hn : kF1 σ e < f) : kCf σ (kF1 σ e) e (e + 1) := by
  refine Or.inr ⟨by omega, rfl, hb, fun j a b => ?_⟩
  by_cases hj : j = e
  · rw [hj]
    omega
  · rcases h with ⟨h1, h2, h3⟩ | ⟨h1, h2, h3, h4⟩
    · have := h3 j a (by omega)
      omega
    · have := h4 j a (by omega)
      omega
theorem kCf_end {σ : zS} {f ch : Int} (h : kCf σ f ch 25) (hb : kB0 σ < 1000000) : 0 ≤ ch ∧ f = kB0 σ ∧ kFe σ ch := by
  rcases mMnS_at 1000000 (kF1 σ) 25 with g | ⟨i, g1, g2, g3⟩
  · have : mMnS 1000000 (kF1 σ) 25 = kB0 σ := rfl
    omega
  · have g4 : kF1 σ i = kB0 σ := g3
    rcases h with ⟨h1, h2, h3⟩ | ⟨h1, h2, h3, h4⟩
    · have := h3 i g1 g2
      omega
    · have a1 := h4 i g1 g2
      have a2 : kB0 σ ≤ kF1 σ ch := mMnS_lf 1000000 (kF1 σ) 25 ch h1.1 h1.2
      refine ⟨h1.1, by omega, h1, by omega, fun j b1 b2 => ?_⟩
      have := h4 j b1 (by omega)
      omega
theorem kF1_n {σ : zS} {e : Int} (h : mWind (kW1 σ) (kW1 σ) (e / 5) < 0 ∨ mWind (kW2 σ) (kW2 σ) (e % 5) < 0 ∨ σ 32 9 < mHeat 0 (σ 35 0)) : kF1 σ e = 1000000 := if_pos h
theorem kF1_y {σ : zS} {e : Int} (h : ¬ (mWind (kW1 σ) (kW1 σ) (e / 5) < 0 ∨ mWind (kW2 σ) (kW2 σ) (e % 5) < 0 ∨ σ 32 9 < mHeat 0 (σ 35 0))) : kF1 σ e = kQ σ 0 e + kV σ (σ 32 12 - 1).toNat (mWind (kW1 σ) (kW1 σ) (e / 5)) (mWind (kW2 σ) (kW2 σ) (e % 5)) (mHeat 0 (σ 35 0)) := if_neg h
theorem kTs_c {σ τ : zS} (h13 : 40 ≤ σ 15 13 ∧ σ 15 13 ≤ 43) (h14 : 40 ≤ σ 15 14 ∧ σ 15 14 ≤ 43) (g1 : ∀ c : Int, c ≠ 15 → τ c = σ c) (g2 : τ 15 13 = σ 15 13 ∧ τ 15 14 = σ 15 14) : kTs τ = kTs σ := by
  funext e b
  unfold kTs
  rw [g2.1, g2.2, g1 (σ 15 13) (by omega), g1 (σ 15 14) (by omega)]
set_option maxRecDepth 20000 in
set_option maxHeartbeats 4000000 in
theorem c_X5_chooseFirst {l : Launch} {D : va_G} {Y : Nat → ClassId} {a : Int → Nat} (hI : zI a) (σ : zS)  (hn : 1 ≤ σ 32 12 ∧ σ 32 12 ≤ 24) (hg : ∀ i : Int, 0 ≤ i → i < 24 → -1 ≤ σ 35 i ∧ σ 35 i ≤ 6) (hho : 5 ≤ σ 32 9 ∧ σ 32 9 ≤ 20) (hpz : 0 ≤ σ 32 10 ∧ σ 32 10 ≤ 99) (h13 : 40 ≤ σ 15 13 ∧ σ 15 13 ≤ 43) (h14 : 40 ≤ σ 15 14 ∧ σ 15 14 ≤ 43) (hw1 : 0 ≤ σ (σ 15 13) 3 ∧ σ (σ 15 13) 3 ≤ 9) (hw2 : 0 ≤ σ (σ 15 14) 3 ∧ σ (σ 15 14) 3 ≤ 9) (hbf : (σ 15 8 = 21 ∧ σ 15 9 = 22) ∨ (σ 15 8 = 22 ∧ σ 15 9 = 21)) (hpt : ∀ e : Int, 0 ≤ e → e < 25 → 0 ≤ σ 16 e ∧ σ 16 e ≤ 160) (hb1 : jBd σ 21) (hb2 : jBd σ 22) (hhb : kHb σ σ (σ 32 12)) (hr1 : (0 ≤ σ (σ 15 13) 1 ∧ σ (σ 15 13) 1 ≤ 20) ∧ (0 ≤ σ (σ 15 13) 2 ∧ σ (σ 15 13) 2 ≤ 10)) (hr2 : (0 ≤ σ (σ 15 14) 1 ∧ σ (σ 15 14) 1 ≤ 20) ∧ (0 ≤ σ (σ 15 14) 2 ∧ σ (σ 15 14) 2 ≤ 10)) (hN : kN σ σ 1 (σ 32 12 - 1).toNat) : zMet l yX5_chooseFirst cX5_chooseFirst 8 none 3 (zPc D Y a σ [.ref (a 15)]) (zQv D Y a (fun τ => ((∀ c : Int, c ≠ 15 → τ c = σ c) ∧ ∀ j : Int, j ≠ 0 → j ≠ 1 → τ 15 j = σ 15 j) ∧ τ 15 0 = kB0 σ ∧ ∃ e b : Int, kFe σ e ∧ kLb σ (mHard (σ 35 0)) (kQ σ 0 e) e b ∧ τ 15 1 = 100 * (e / 5) + 10 * (e % 5) + b - 4)) (inA a) := by
  refine z_start rfl (Nat.le_of_ble_eq_true rfl) hI ?_
  intro p e s m below meth c ls C hr hlocks hl hP
  have hS : va_S (inA a) s.heap s.heap [] := va_S.rf
  have hl : lv_has ls 8 [(0, .ref (a 15))] := hl
  have hg0 := hg 0 (by omega) (by omega)
  have hh0 := mHard_b (σ 35 0)
  have ek1 : kW1 σ = σ (σ 15 13) 3 := rfl
  have ek2 : kW2 σ = σ (σ 15 14) 3 := rfl
  have hm0 := mHeat_0 (σ 35 0)
  have hfin : kB0 σ ≤ 241 + 340 * (σ 32 12 - 1).toNat := kB_fin hw1.1 hw2.1 hho.1 hpz 0 (σ 32 12 - 1).toNat
  skip
  refine z_aload_n C hl 0 rfl dX5_chooseFirst_0 ?_
  refine zg_X5_39 C hP dX5_chooseFirst_1 ?_
  refine zg32_X5_80 C hP dX5_chooseFirst_4 ?_
  refine z_iconst C dX5_chooseFirst_7 ?_
  refine z_iald C hP ia_35 ⟨by omega, by omega⟩ dX5_chooseFirst_8 ?_
  refine z_sSi C hP (As := [.int (iI (σ 35 0))]) lk_X5_89 (c_X0_hardOf hI σ (σ 35 0) ⟨by omega, by omega⟩) rfl hl.1 rfl (Nat.le_of_ble_eq_true rfl) ⟨Nat.le_of_ble_eq_true rfl, Nat.le_of_ble_eq_true rfl⟩ ⟨Nat.zero_le _, Nat.zero_le _⟩ dX5_chooseFirst_9 ?_
  refine z_istore_n C [1, 0] [(0, .ref (a 15)), (1, .int (iI (mHard (σ 35 0))))] hl (by decide) rfl dX5_chooseFirst_12 (fun ls hl => ?_)
  refine z_iconst C dX5_chooseFirst_13 ?_
  refine z_aload_n C hl 0 rfl dX5_chooseFirst_14 ?_
  refine zg_X5_39 C hP dX5_chooseFirst_15 ?_
  refine zg32_X5_80 C hP dX5_chooseFirst_18 ?_
  refine z_iconst C dX5_chooseFirst_21 ?_
  refine z_iald C hP ia_35 ⟨by omega, by omega⟩ dX5_chooseFirst_22 ?_
  refine z_sSi C hP (As := [.int (iI 0), .int (iI (σ 35 0))]) lk_X5_83 (c_X0_heatBehind hI σ 0 (σ 35 0) ⟨by decide, by decide⟩ ⟨by omega, by omega⟩) rfl hl.1 rfl (Nat.le_of_ble_eq_true rfl) ⟨Nat.le_of_ble_eq_true rfl, Nat.le_of_ble_eq_true rfl⟩ ⟨Nat.zero_le _, Nat.zero_le _⟩ dX5_chooseFirst_23 ?_
  refine z_istore_n C [1, 2, 0] [(0, .ref (a 15)), (1, .int (iI (mHard (σ 35 0)))), (2, .int (iI (mHeat 0 (σ 35 0))))] hl (by decide) rfl dX5_chooseFirst_26 (fun ls hl => ?_)
  refine z_bipush C (by decide +kernel) dX5_chooseFirst_27 ?_
  refine z_istore_n C [1, 2, 3, 0] [(0, .ref (a 15)), (1, .int (iI (mHard (σ 35 0)))), (2, .int (iI (mHeat 0 (σ 35 0)))), (3, .int (iI (-6)))] hl (by decide) rfl dX5_chooseFirst_29 (fun ls hl => ?_)
  refine z_aload_n C hl 0 rfl dX5_chooseFirst_30 ?_
  refine z_ldc C (z := 1000000000) wd_524 (by decide +kernel) dX5_chooseFirst_31 ?_
  refine zp_X5_127 C hP hS dX5_chooseFirst_33 (fun H locs hP hS => ?_)
  obtain ⟨t1, et1⟩ : ∃ z : zS, z = zU σ 15 0 1000000000 := ⟨_, rfl⟩
  rw [← et1] at hP
  refine z_iconst C dX5_chooseFirst_36 ?_
  refine z_istore C [1, 2, 3, 4, 0] [(0, .ref (a 15)), (1, .int (iI (mHard (σ 35 0)))), (2, .int (iI (mHeat 0 (σ 35 0)))), (3, .int (iI (-6))), (4, .int (iI 0))] hl (by decide) rfl dX5_chooseFirst_37 (fun ls hl => ?_)
  have L_39 : ∀ (n : Nat) (ch : Int) (ee : Int) (τ : zS) (H : Heap) (locs : List Loc) (hP : GP D Y a τ H) (hS : va_S (inA a) s.heap H locs) (ls : Array Slot), (0 ≤ ee ∧ ee ≤ 25) → ((∀ c : Int, c ≠ 15 → τ c = σ c) ∧ ∀ j : Int, j ≠ 0 → j ≠ 1 → τ 15 j = σ 15 j) → (kCf σ (τ 15 0) ch ee) → ((0 ≤ τ 15 0 ∧ τ 15 0 ≤ 1000000000) ∧ -6 ≤ ch ∧ ch < 25) → ((25 - ee).toNat) < n → lv_has ls 8 [(0, .ref (a 15)), (1, .int (iI (mHard (σ 35 0)))), (2, .int (iI (mHeat 0 (σ 35 0)))), (3, .int (iI ch)), (4, .int (iI ee))] → W p l e (zR 3) s m ([.ref (a 15)] : List Value).toArray below meth c H locs 0 0 (MQ below (zQv D Y a (fun τ => ((∀ c : Int, c ≠ 15 → τ c = σ c) ∧ ∀ j : Int, j ≠ 0 → j ≠ 1 → τ 15 j = σ 15 j) ∧ τ 15 0 = kB0 σ ∧ ∃ e b : Int, kFe σ e ∧ kLb σ (mHard (σ 35 0)) (kQ σ 0 e) e b ∧ τ 15 1 = 100 * (e / 5) + 10 * (e % 5) + b - 4)) ([.ref (a 15)] : List Value).toArray s 0 0 (inA a)) (F0 m 39 ls []) := by
    intro n
    induction n with
    | zero =>
      intros; omega
    | succ n ih_39 =>
      intro ch ee τ H locs hP hS ls ie gτ iC ib hm hl
      refine z_iload C hl 4 rfl dX5_chooseFirst_39 ?_
      refine z_bipush C (by decide +kernel) dX5_chooseFirst_41 ?_
      refine z_icmp_ge C 161 dX5_chooseFirst_43 (by decide) ⟨by omega, by omega⟩ ⟨by omega, by omega⟩ (fun c_43 => ?_) (fun c_43 => ?_)
      · have he25 : ee = 25 := by omega
        subst he25
        have hend := kCf_end iC (by omega)
        refine z_iload_n C hl 3 rfl dX5_chooseFirst_161 ?_
        refine z_bipush C (by decide +kernel) dX5_chooseFirst_162 ?_
        refine z_icmp_ne C 182 dX5_chooseFirst_164 (by decide) ⟨by omega, by omega⟩ ⟨by omega, by omega⟩ (fun c_164 => ?_) (fun c_164 => ?_)
        · have hcl : ch < 25 := hend.2.2.1.2
          have hpc := hpt ch (by omega) (by omega)
          refine z_aload_n C hl 0 rfl dX5_chooseFirst_182 ?_
          refine z_iload_n C hl 3 rfl dX5_chooseFirst_183 ?_
          refine z_iload_n C hl 1 rfl dX5_chooseFirst_184 ?_
          refine z_aload_n C hl 0 rfl dX5_chooseFirst_185 ?_
          refine zg_X5_9 C hP dX5_chooseFirst_186 ?_
          refine z_iload_n C hl 3 rfl dX5_chooseFirst_189 ?_
          refine z_iald C hP ia_16 ⟨by omega, by omega⟩ dX5_chooseFirst_190 ?_
          rw [show τ 16 ch = σ 16 ch from by rw [gτ.1 16 (by omega)]]
          refine z_sSi C hP (As := [.int (iI (mHard (σ 35 0))), .int (iI (σ 16 ch))]) lk_X5_116 (c_X0_secondsOf hI τ (mHard (σ 35 0)) (σ 16 ch) (by omega) (by omega)) rfl hl.1 rfl (Nat.le_of_ble_eq_true rfl) ⟨Nat.le_of_ble_eq_true rfl, Nat.le_of_ble_eq_true rfl⟩ ⟨Nat.zero_le _, Nat.zero_le _⟩ dX5_chooseFirst_191 ?_
          have hqc : 1 ≤ mSec (mHard (σ 35 0)) (σ 16 ch) ∧ mSec (mHard (σ 35 0)) (σ 16 ch) ≤ 241 := mSec_b (by omega)
          refine z_iload_n C hl 1 rfl dX5_chooseFirst_194 ?_
          refine z_vQi hS C hP (As := [.int (iI ch), .int (iI (mSec (mHard (σ 35 0)) (σ 16 ch))), .int (iI (mHard (σ 35 0)))]) lk_X5_133 (c_X5_leastBeatFor hI τ ch (mSec (mHard (σ 35 0)) (σ 16 ch)) (mHard (σ 35 0)) (by rw [gτ.2 13 (by omega) (by omega)]; exact h13) (by rw [gτ.2 14 (by omega) (by omega)]; exact h14) (by rw [gτ.2 13 (by omega) (by omega), gτ.1 (σ 15 13) (by omega)]; exact hr1) (by rw [gτ.2 14 (by omega) (by omega), gτ.1 (σ 15 14) (by omega)]; exact hr2) ⟨by omega, by omega⟩ ⟨by omega, by omega⟩ ⟨by omega, by omega⟩) ob_15 rfl rfl rfl hl.1 rfl (Nat.le_of_ble_eq_true rfl) ⟨Nat.le_of_ble_eq_true rfl, Nat.le_of_ble_eq_true rfl⟩ ⟨Nat.zero_le _, Nat.zero_le _⟩ dX5_chooseFirst_195 (fun r2 t3 H locs hp195 hP hS => ?_)
          have et3 := hp195.2
          have gt3 : (∀ c : Int, c ≠ 15 → t3 c = σ c) ∧ ∀ j : Int, j ≠ 0 → j ≠ 1 → t3 15 j = σ 15 j := by rw [et3]; exact gτ
          refine z_istore C [1, 2, 3, 4, 0] [(0, .ref (a 15)), (1, .int (iI (mHard (σ 35 0)))), (2, .int (iI (mHeat 0 (σ 35 0)))), (3, .int (iI ch)), (4, .int (iI r2))] hl (by decide) rfl dX5_chooseFirst_198 (fun ls hl => ?_)
          refine z_aload_n C hl 0 rfl dX5_chooseFirst_200 ?_
          refine z_bipush C (by decide +kernel) dX5_chooseFirst_201 ?_
          refine z_iload_n C hl 3 rfl dX5_chooseFirst_203 ?_
          refine z_iconst C dX5_chooseFirst_204 ?_
          refine z_idiv C ⟨by omega, by omega, by omega, by omega⟩ dX5_chooseFirst_205 ?_
          refine z_imul C dX5_chooseFirst_206 ?_
          refine z_bipush C (by decide +kernel) dX5_chooseFirst_207 ?_
          refine z_iload_n C hl 3 rfl dX5_chooseFirst_209 ?_
          refine z_iconst C dX5_chooseFirst_210 ?_
          refine z_irem C ⟨by omega, by omega, by omega, by omega⟩ dX5_chooseFirst_211 ?_
          refine z_imul C dX5_chooseFirst_212 ?_
          refine z_iadd C dX5_chooseFirst_213 ?_
          refine z_iload C hl 4 rfl dX5_chooseFirst_214 ?_
          refine z_iadd C dX5_chooseFirst_216 ?_
          refine z_iconst C dX5_chooseFirst_217 ?_
          refine z_isub C dX5_chooseFirst_218 ?_
          refine zp_X5_130 C hP hS dX5_chooseFirst_219 (fun H locs hP hS => ?_)
          obtain ⟨t4, et4⟩ : ∃ z : zS, z = zU t3 15 1 ((((100 * (ch / 5)) + (10 * (ch % 5))) + r2) - 4) := ⟨_, rfl⟩
          rw [← et4] at hP
          exact z_retQv C hP hS hr hlocks (by refine ⟨⟨fun c hc => (by rw [et4, zU_cell hc]; exact gt3.1 c hc), fun j h1 h2 => (by rw [et4, zU_place h2]; exact gt3.2 j h1 h2)⟩, (by rw [et4, zU_place (by decide), et3]; exact hend.2.1), ch, r2, hend.2.2, ?_, (by rw [et4, zU_same])⟩; have hq := hp195.1; unfold kLb at hq ⊢; rw [kTs_c h13 h14 gτ.1 ⟨gτ.2 13 (by omega) (by omega), gτ.2 14 (by omega) (by omega)⟩] at hq; exact hq) dX5_chooseFirst_222
        · exfalso; omega
      · refine z_aload_n C hl 0 rfl dX5_chooseFirst_46 ?_
        refine zg_X5_49 C hP dX5_chooseFirst_47 ?_
        rw [show τ 15 13 = σ 15 13 from by rw [gτ.2 13 (by omega) (by omega)]]
        refine z_aload_n C hl 0 rfl dX5_chooseFirst_50 ?_
        refine zg_X5_49 C hP dX5_chooseFirst_51 ?_
        rw [show τ 15 13 = σ 15 13 from by rw [gτ.2 13 (by omega) (by omega)]]
        refine zg_X5_99 C hP (by unfold zRid; omega) dX5_chooseFirst_54 ?_
        rw [show τ (σ 15 13) 3 = σ (σ 15 13) 3 from by rw [gτ.1 (σ 15 13) (by omega)]]
        refine z_iload C hl 4 rfl dX5_chooseFirst_57 ?_
        refine z_iconst C dX5_chooseFirst_59 ?_
        refine z_idiv C ⟨by omega, by omega, by omega, by omega⟩ dX5_chooseFirst_60 ?_
        refine z_vSi C hP (As := [.int (iI (σ (σ 15 13) 3)), .int (iI (ee / 5))]) lk_X5_119 (c_X4_windBehind hI τ (σ 15 13) (σ (σ 15 13) 3) (ee / 5) (by unfold zRid; omega) (by rw [gτ.1 (σ 15 13) (by omega)]; exact hw1) ⟨by omega, by omega⟩ ⟨by omega, by omega⟩) (ob_rid (by unfold zRid; omega)) rfl rfl rfl hl.1 rfl (Nat.le_of_ble_eq_true rfl) ⟨Nat.le_of_ble_eq_true rfl, Nat.le_of_ble_eq_true rfl⟩ ⟨Nat.zero_le _, Nat.zero_le _⟩ dX5_chooseFirst_61 ?_
        rw [gτ.1 (σ 15 13) (by omega)]
        have w1 := mWind_b (now := σ (σ 15 13) 3) (e := ee / 5) hw1 hw1 (by omega)
        refine z_topi (fun x5 hx5 => ?_)
        refine z_istore C [1, 2, 3, 4, 5, 0] [(0, .ref (a 15)), (1, .int (iI (mHard (σ 35 0)))), (2, .int (iI (mHeat 0 (σ 35 0)))), (3, .int (iI ch)), (4, .int (iI ee)), (5, .int (iI x5))] hl (by decide) rfl dX5_chooseFirst_64 (fun ls hl => ?_)
        refine z_aload_n C hl 0 rfl dX5_chooseFirst_66 ?_
        refine zg_X5_56 C hP dX5_chooseFirst_67 ?_
        rw [show τ 15 14 = σ 15 14 from by rw [gτ.2 14 (by omega) (by omega)]]
        refine z_aload_n C hl 0 rfl dX5_chooseFirst_70 ?_
        refine zg_X5_56 C hP dX5_chooseFirst_71 ?_
        rw [show τ 15 14 = σ 15 14 from by rw [gτ.2 14 (by omega) (by omega)]]
        refine zg_X5_99 C hP (by unfold zRid; omega) dX5_chooseFirst_74 ?_
        rw [show τ (σ 15 14) 3 = σ (σ 15 14) 3 from by rw [gτ.1 (σ 15 14) (by omega)]]
        refine z_iload C hl 4 rfl dX5_chooseFirst_77 ?_
        refine z_iconst C dX5_chooseFirst_79 ?_
        refine z_irem C ⟨by omega, by omega, by omega, by omega⟩ dX5_chooseFirst_80 ?_
        refine z_vSi C hP (As := [.int (iI (σ (σ 15 14) 3)), .int (iI (ee % 5))]) lk_X5_119 (c_X4_windBehind hI τ (σ 15 14) (σ (σ 15 14) 3) (ee % 5) (by unfold zRid; omega) (by rw [gτ.1 (σ 15 14) (by omega)]; exact hw2) ⟨by omega, by omega⟩ ⟨by omega, by omega⟩) (ob_rid (by unfold zRid; omega)) rfl rfl rfl hl.1 rfl (Nat.le_of_ble_eq_true rfl) ⟨Nat.le_of_ble_eq_true rfl, Nat.le_of_ble_eq_true rfl⟩ ⟨Nat.zero_le _, Nat.zero_le _⟩ dX5_chooseFirst_81 ?_
        rw [gτ.1 (σ 15 14) (by omega)]
        have w2 := mWind_b (now := σ (σ 15 14) 3) (e := ee % 5) hw2 hw2 (by omega)
        refine z_topi (fun x6 hx6 => ?_)
        refine z_istore C [1, 2, 3, 4, 5, 6, 0] [(0, .ref (a 15)), (1, .int (iI (mHard (σ 35 0)))), (2, .int (iI (mHeat 0 (σ 35 0)))), (3, .int (iI ch)), (4, .int (iI ee)), (5, .int (iI x5)), (6, .int (iI x6))] hl (by decide) rfl dX5_chooseFirst_84 (fun ls hl => ?_)
        refine z_iload C hl 5 rfl dX5_chooseFirst_86 ?_
        refine z_if_lt C 155 dX5_chooseFirst_88 (by decide) ⟨by omega, by omega⟩ (fun c_88 => ?_) (fun c_88 => ?_)
        · refine z_iinc C 4 [1, 2, 3, 4, 0, 5, 6] [(0, .ref (a 15)), (1, .int (iI (mHard (σ 35 0)))), (2, .int (iI (mHeat 0 (σ 35 0)))), (3, .int (iI ch)), (4, .int (iI (ee + 1))), (5, .int (iI x5)), (6, .int (iI x6))] hl rfl (by decide) rfl dX5_chooseFirst_155 (fun ls hl => ?_)
          refine z_goto C 39 dX5_chooseFirst_158 (by decide) ?_
          exact ih_39 ch (ee + 1) τ H locs hP hS ls (by omega) (by first | exact gτ | exact ⟨fun c hc => (by rw [zU_cell hc]; exact gτ.1 c hc), fun j h1 h2 => (by rw [zU_place h1]; exact gτ.2 j h1 h2)⟩) (by first | exact kCf_n iC (kF1_n (by rw [ek1, ek2]; omega)) | exact kCf_s iC (by omega) (by omega) | (have hy := kCf_y iC ie.1 (by omega) (by omega); rw [zU_same]; rw [hk1, hnoLocal] at hy; exact hy)) (by first | exact ib | (rw [zU_same]; omega)) (by omega) (lv_sub hl [0, 1, 2, 3, 4] rfl)
        · refine z_iload C hl 6 rfl dX5_chooseFirst_91 ?_
          refine z_if_lt C 155 dX5_chooseFirst_93 (by decide) ⟨by omega, by omega⟩ (fun c_93 => ?_) (fun c_93 => ?_)
          · refine z_iinc C 4 [1, 2, 3, 4, 0, 5, 6] [(0, .ref (a 15)), (1, .int (iI (mHard (σ 35 0)))), (2, .int (iI (mHeat 0 (σ 35 0)))), (3, .int (iI ch)), (4, .int (iI (ee + 1))), (5, .int (iI x5)), (6, .int (iI x6))] hl rfl (by decide) rfl dX5_chooseFirst_155 (fun ls hl => ?_)
            refine z_goto C 39 dX5_chooseFirst_158 (by decide) ?_
            exact ih_39 ch (ee + 1) τ H locs hP hS ls (by omega) (by first | exact gτ | exact ⟨fun c hc => (by rw [zU_cell hc]; exact gτ.1 c hc), fun j h1 h2 => (by rw [zU_place h1]; exact gτ.2 j h1 h2)⟩) (by first | exact kCf_n iC (kF1_n (by rw [ek1, ek2]; omega)) | exact kCf_s iC (by omega) (by omega) | (have hy := kCf_y iC ie.1 (by omega) (by omega); rw [zU_same]; rw [hk1, hnoLocal] at hy; exact hy)) (by first | exact ib | (rw [zU_same]; omega)) (by omega) (lv_sub hl [0, 1, 2, 3, 4] rfl)
          · refine z_iload_n C hl 2 rfl dX5_chooseFirst_96 ?_
            refine z_aload_n C hl 0 rfl dX5_chooseFirst_97 ?_
            refine zg_X5_39 C hP dX5_chooseFirst_98 ?_
            refine zg32_X5_77 C hP dX5_chooseFirst_101 ?_
            rw [show τ 32 9 = σ 32 9 from by rw [gτ.1 32 (by omega)]]
            refine z_icmp_le C 110 dX5_chooseFirst_104 (by decide) ⟨by omega, by omega⟩ ⟨by omega, by omega⟩ (fun c_104 => ?_) (fun c_104 => ?_)
            · have hpe := hpt ee (by omega) (by omega)
              refine z_iload_n C hl 1 rfl dX5_chooseFirst_110 ?_
              refine z_aload_n C hl 0 rfl dX5_chooseFirst_111 ?_
              refine zg_X5_9 C hP dX5_chooseFirst_112 ?_
              refine z_iload C hl 4 rfl dX5_chooseFirst_115 ?_
              refine z_iald C hP ia_16 ⟨by omega, by omega⟩ dX5_chooseFirst_117 ?_
              rw [show τ 16 ee = σ 16 ee from by rw [gτ.1 16 (by omega)]]
              refine z_sSi C hP (As := [.int (iI (mHard (σ 35 0))), .int (iI (σ 16 ee))]) lk_X5_116 (c_X0_secondsOf hI τ (mHard (σ 35 0)) (σ 16 ee) (by omega) (by omega)) rfl hl.1 rfl (Nat.le_of_ble_eq_true rfl) ⟨Nat.le_of_ble_eq_true rfl, Nat.le_of_ble_eq_true rfl⟩ ⟨Nat.zero_le _, Nat.zero_le _⟩ dX5_chooseFirst_118 ?_
              have hqb : 1 ≤ mSec (mHard (σ 35 0)) (σ 16 ee) ∧ mSec (mHard (σ 35 0)) (σ 16 ee) ≤ 241 := mSec_b (by omega)
              refine z_aload_n C hl 0 rfl dX5_chooseFirst_121 ?_
              refine zg_X5_27 C hP dX5_chooseFirst_122 ?_
              rw [show τ 15 8 = σ 15 8 from by rw [gτ.2 8 (by omega) (by omega)]]
              refine z_iload_n C hl 2 rfl dX5_chooseFirst_125 ?_
              refine z_iload C hl 5 rfl dX5_chooseFirst_126 ?_
              have hmc : mCell (mHeat 0 (σ 35 0)) x5 x6 = (mHeat 0 (σ 35 0) * 10 + x5) * 10 + x6 := rfl
              refine z_iload C hl 6 rfl dX5_chooseFirst_128 ?_
              refine z_sSi C hP (As := [.int (iI (mHeat 0 (σ 35 0))), .int (iI x5), .int (iI x6)]) lk_X5_109 (c_X5_cellOf hI τ (mHeat 0 (σ 35 0)) x5 x6 ) rfl hl.1 rfl (Nat.le_of_ble_eq_true rfl) ⟨Nat.le_of_ble_eq_true rfl, Nat.le_of_ble_eq_true rfl⟩ ⟨Nat.zero_le _, Nat.zero_le _⟩ dX5_chooseFirst_130 ?_
              refine z_iald C hP (ia_on (by omega)) ⟨by omega, by omega⟩ dX5_chooseFirst_133 ?_
              rw [show τ (σ 15 8) (mCell (mHeat 0 (σ 35 0)) x5 x6) = σ (σ 15 8) (mCell (mHeat 0 (σ 35 0)) x5 x6) from by rw [gτ.1 (σ 15 8) (by omega)]]
              refine z_iadd C dX5_chooseFirst_134 ?_
              have hNe := hN x5 x6 (mHeat 0 (σ 35 0)) ⟨by omega, by rw [← hx5]; unfold mWind; omega⟩ ⟨by omega, by rw [← hx6]; unfold mWind; omega⟩ ⟨by omega, by omega⟩ (hhb.2 0 (by decide) (by omega) 0 (by decide) (by omega) (Or.inl rfl) (by omega))
              have hk1 : kF1 σ ee = mSec (mHard (σ 35 0)) (σ 16 ee) + σ (σ 15 8) (mCell (mHeat 0 (σ 35 0)) x5 x6) := by rw [kF1_y (by rw [ek1, ek2]; omega), ek1, ek2, hx5, hx6, hNe]; rfl
              have hvf := dpV_fin (n := σ 32 12) (g := σ 35) (q := kQ σ) (pz := σ 32 10) (w1 := kW1 σ) (w2 := kW2 σ) (hot := σ 32 9) (by omega) (by omega) hho.1 (fun k e => (kQ_b σ k e).2) hpz.2 (σ 32 12 - 1).toNat x5 x6 (mHeat 0 (σ 35 0))
              have hvf2 : kV σ (σ 32 12 - 1).toNat x5 x6 (mHeat 0 (σ 35 0)) ≤ 340 * (σ 32 12 - 1).toNat := hvf
              have hvg := kV_b hpz (σ 32 12 - 1).toNat x5 x6 (mHeat 0 (σ 35 0))
              refine z_topi (fun x7 hx7 => ?_)
              refine z_istore C [1, 2, 3, 4, 5, 6, 7, 0] [(0, .ref (a 15)), (1, .int (iI (mHard (σ 35 0)))), (2, .int (iI (mHeat 0 (σ 35 0)))), (3, .int (iI ch)), (4, .int (iI ee)), (5, .int (iI x5)), (6, .int (iI x6)), (7, .int (iI x7))] hl (by decide) rfl dX5_chooseFirst_135 (fun ls hl => ?_)
              refine z_iload C hl 7 rfl dX5_chooseFirst_137 ?_
              refine z_aload_n C hl 0 rfl dX5_chooseFirst_139 ?_
              refine zg_X5_127 C hP dX5_chooseFirst_140 ?_
              refine z_icmp_ge C 155 dX5_chooseFirst_143 (by decide) ⟨by omega, by omega⟩ ⟨by omega, by omega⟩ (fun c_143 => ?_) (fun c_143 => ?_)
              · refine z_iinc C 4 [1, 2, 3, 4, 0, 5, 6, 7] [(0, .ref (a 15)), (1, .int (iI (mHard (σ 35 0)))), (2, .int (iI (mHeat 0 (σ 35 0)))), (3, .int (iI ch)), (4, .int (iI (ee + 1))), (5, .int (iI x5)), (6, .int (iI x6)), (7, .int (iI x7))] hl rfl (by decide) rfl dX5_chooseFirst_155 (fun ls hl => ?_)
                refine z_goto C 39 dX5_chooseFirst_158 (by decide) ?_
                exact ih_39 ch (ee + 1) τ H locs hP hS ls (by omega) (by first | exact gτ | exact ⟨fun c hc => (by rw [zU_cell hc]; exact gτ.1 c hc), fun j h1 h2 => (by rw [zU_place h1]; exact gτ.2 j h1 h2)⟩) (by first | exact kCf_n iC (kF1_n (by rw [ek1, ek2]; omega)) | exact kCf_s iC (by omega) (by omega) | (have hy := kCf_y iC ie.1 (by omega) (by omega); rw [zU_same]; rw [hk1, hx7] at hy; exact hy)) (by first | exact ib | (rw [zU_same]; omega)) (by omega) (lv_sub hl [0, 1, 2, 3, 4] rfl)
              · refine z_aload_n C hl 0 rfl dX5_chooseFirst_146 ?_
                refine z_iload C hl 7 rfl dX5_chooseFirst_147 ?_
                refine zp_X5_127 C hP hS dX5_chooseFirst_149 (fun H locs hP hS => ?_)
                obtain ⟨t8, et8⟩ : ∃ z : zS, z = zU τ 15 0 x7 := ⟨_, rfl⟩
                rw [← et8] at hP
                refine z_iload C hl 4 rfl dX5_chooseFirst_152 ?_
                refine z_istore_n C [1, 2, 3, 0, 4, 5, 6, 7] [(0, .ref (a 15)), (1, .int (iI (mHard (σ 35 0)))), (2, .int (iI (mHeat 0 (σ 35 0)))), (3, .int (iI ee)), (4, .int (iI ee)), (5, .int (iI x5)), (6, .int (iI x6)), (7, .int (iI x7))] hl (by decide) rfl dX5_chooseFirst_154 (fun ls hl => ?_)
                refine z_iinc C 4 [1, 2, 3, 4, 0, 5, 6, 7] [(0, .ref (a 15)), (1, .int (iI (mHard (σ 35 0)))), (2, .int (iI (mHeat 0 (σ 35 0)))), (3, .int (iI ee)), (4, .int (iI (ee + 1))), (5, .int (iI x5)), (6, .int (iI x6)), (7, .int (iI x7))] hl rfl (by decide) rfl dX5_chooseFirst_155 (fun ls hl => ?_)
                refine z_goto C 39 dX5_chooseFirst_158 (by decide) ?_
                exact ih_39 ee (ee + 1) t8 H locs hP hS ls (by omega) (by first | exact gτ | exact ⟨fun c hc => (by rw [et8, zU_cell hc]; exact gτ.1 c hc), fun j h1 h2 => (by rw [et8, zU_place h1]; exact gτ.2 j h1 h2)⟩) (by first | exact kCf_n iC (kF1_n (by rw [ek1, ek2]; omega)) | exact kCf_s iC (by omega) (by omega) | (have hy := kCf_y iC ie.1 (by omega) (by omega); rw [et8, zU_same]; rw [hk1, hx7] at hy; exact hy)) (by first | exact ib | (rw [et8, zU_same]; omega)) (by omega) (lv_sub hl [0, 1, 2, 3, 4] rfl)
            · refine z_goto C 155 dX5_chooseFirst_107 (by decide) ?_
              refine z_iinc C 4 [1, 2, 3, 4, 0, 5, 6] [(0, .ref (a 15)), (1, .int (iI (mHard (σ 35 0)))), (2, .int (iI (mHeat 0 (σ 35 0)))), (3, .int (iI ch)), (4, .int (iI (ee + 1))), (5, .int (iI x5)), (6, .int (iI x6))] hl rfl (by decide) rfl dX5_chooseFirst_155 (fun ls hl => ?_)
              refine z_goto C 39 dX5_chooseFirst_158 (by decide) ?_
              exact ih_39 ch (ee + 1) τ H locs hP hS ls (by omega) (by first | exact gτ | exact ⟨fun c hc => (by rw [zU_cell hc]; exact gτ.1 c hc), fun j h1 h2 => (by rw [zU_place h1]; exact gτ.2 j h1 h2)⟩) (by first | exact kCf_n iC (kF1_n (by rw [ek1, ek2]; omega)) | exact kCf_s iC (by omega) (by omega) | (have hy := kCf_y iC ie.1 (by omega) (by omega); rw [zU_same]; rw [hk1, hnoLocal] at hy; exact hy)) (by first | exact ib | (rw [zU_same]; omega)) (by omega) (lv_sub hl [0, 1, 2, 3, 4] rfl)
  exact L_39 _ (-6) 0 t1 _ _ hP hS ls (by omega) (by exact ⟨fun c hc => (by rw [et1, zU_cell hc]), fun j h1 h2 => (by rw [et1, zU_place h1])⟩) (by rw [et1, zU_same]; exact Or.inl ⟨rfl, rfl, fun j h1 h2 => (by omega)⟩) (by rw [et1, zU_same]; decide) (Nat.lt_succ_self _) (lv_sub hl [0, 1, 2, 3, 4] rfl)
