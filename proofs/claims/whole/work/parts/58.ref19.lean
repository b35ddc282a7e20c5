theorem jQk_G {σ τ : zS} (h : jG σ τ) : jQk τ = jQk σ := jQk_c (h 101 (by omega)) (h 102 (by omega))
theorem jS0_c {σ τ : zS} (h : jG σ τ) : jS0 τ = jS0 σ := by
  have e : jB0 τ = jB0 σ := by
    funext f r
    unfold jB0 jBk jV
    rw [jQk_G h, h 100 (by omega), h 103 (by omega), h 105 (by omega)]
  funext f r
  unfold jS0
  rw [e]
theorem jS0_b {σ : zS} (hpz : 0 ≤ σ 100 8 ∧ σ 100 8 ≤ 99) (f r : Int) : jS0 σ f r = -6 ∨ (0 ≤ jS0 σ f r ∧ jS0 σ f r < 1000000) := by
  have h := jBk_b hpz f r 0 (σ 100 11 - 1).toNat (σ 103 f) (σ 103 r) 0
  rw [show jBk σ f r 0 (σ 100 11 - 1).toNat (σ 103 f) (σ 103 r) 0 = jB0 σ f r from rfl] at h
  unfold jS0
  split <;> omega
def jPv (σ : zS) (f r : Int) : Prop := mBit (σ 100 0) f = 1 ∧ mBit (σ 100 0) r = 1 ∧ f ≠ r
def jPr (σ : zS) (ct fo le : Int) : Prop := (fo = -6 ∧ le = 1000000 ∧ ∀ f r : Int, 0 ≤ f → f ≤ 3 → 0 ≤ r → r ≤ 3 → jPv σ f r → 4 * f + r < ct → ¬ (0 ≤ jS0 σ f r ∧ jS0 σ f r < 1000000)) ∨ (∃ f r : Int, (0 ≤ f ∧ f ≤ 3) ∧ (0 ≤ r ∧ r ≤ 3) ∧ jPv σ f r ∧ 4 * f + r < ct ∧ fo = 10 * f + r ∧ le = jS0 σ f r ∧ (0 ≤ le ∧ le < 1000000) ∧ ∀ f' r' : Int, 0 ≤ f' → f' ≤ 3 → 0 ≤ r' → r' ≤ 3 → jPv σ f' r' → 4 * f' + r' < ct → 0 ≤ jS0 σ f' r' → le ≤ jS0 σ f' r' ∧ (4 * f' + r' < 4 * f + r → le < jS0 σ f' r'))
theorem jPr_n {σ : zS} {f r fo le : Int} (hf : 0 ≤ f ∧ f ≤ 3) (hr : 0 ≤ r ∧ r ≤ 3) (h : jPr σ (4 * f + r) fo le) (hn : jPv σ f r → ¬ (0 ≤ jS0 σ f r ∧ jS0 σ f r < le)) : jPr σ (4 * f + (r + 1)) fo le := by
  rcases h with ⟨h1, h2, h3⟩ | ⟨g, s, a1, a2, a3, a4, a5, a6, a7, a8⟩
  · refine Or.inl ⟨h1, h2, fun f' r' b1 b2 b3 b4 b5 b6 => ?_⟩
    by_cases hc : 4 * f' + r' < 4 * f + r
    · exact h3 f' r' b1 b2 b3 b4 b5 hc
    · have e1 : f' = f := by omega
      have e2 : r' = r := by omega
      subst e1 e2
      rw [h2] at hn
      exact hn b5
  · refine Or.inr ⟨g, s, a1, a2, a3, by omega, a5, a6, a7, fun f' r' b1 b2 b3 b4 b5 b6 b7 => ?_⟩
    by_cases hc : 4 * f' + r' < 4 * f + r
    · exact a8 f' r' b1 b2 b3 b4 b5 hc b7
    · have e1 : f' = f := by omega
      have e2 : r' = r := by omega
      subst e1 e2
      have := hn b5
      exact ⟨by omega, fun _ => by omega⟩
theorem jPr_y {σ : zS} {f r fo le fo2 le2 : Int} (hf : 0 ≤ f ∧ f ≤ 3) (hr : 0 ≤ r ∧ r ≤ 3) (h : jPr σ (4 * f + r) fo le) (hv : jPv σ f r) (hs : 0 ≤ jS0 σ f r ∧ jS0 σ f r < le) (e1 : fo2 = 10 * f + r) (e2 : le2 = jS0 σ f r) : jPr σ (4 * f + (r + 1)) fo2 le2 := by
  subst e1 e2
  have hl : le ≤ 1000000 := by rcases h with ⟨h1, h2, h3⟩ | ⟨g, s, a1, a2, a3, a4, a5, a6, a7, a8⟩ <;> omega
  refine Or.inr ⟨f, r, hf, hr, hv, by omega, rfl, rfl, ⟨hs.1, by omega⟩, fun f' r' b1 b2 b3 b4 b5 b6 b7 => ?_⟩
  by_cases hc : 4 * f' + r' < 4 * f + r
  · rcases h with ⟨h1, h2, h3⟩ | ⟨g, s, a1, a2, a3, a4, a5, a6, a7, a8⟩
    · have := h3 f' r' b1 b2 b3 b4 b5 hc
      exact ⟨by omega, fun _ => by omega⟩
    · have := a8 f' r' b1 b2 b3 b4 b5 hc b7
      exact ⟨by omega, fun _ => by omega⟩
  · have e1 : f' = f := by omega
    have e2 : r' = r := by omega
    subst e1 e2
    exact ⟨Int.le_refl _, fun q => by omega⟩

set_option maxRecDepth 20000 in
set_option maxHeartbeats 4000000 in
theorem c_X8_bestPair {l : Launch} {D : va_G} {Y : Nat → ClassId} {a : Int → Nat} (hI : zI a) (σ : zS) (wh : Int) (r1 : R3 wh) (hrb : 0 ≤ σ 100 0 ∧ σ 100 0 ≤ 15) (hnm : 1 ≤ σ 100 11 ∧ σ 100 11 ≤ 24) (hrd : ∀ r : Int, 0 ≤ r → r ≤ 3 → (0 ≤ σ 101 r ∧ σ 101 r ≤ 20) ∧ (0 ≤ σ 102 r ∧ σ 102 r ≤ 10) ∧ (0 ≤ σ 103 r ∧ σ 103 r ≤ 9)) (hho : 5 ≤ σ 100 7 ∧ σ 100 7 ≤ 20) (hpz : 0 ≤ σ 100 8 ∧ σ 100 8 ≤ 99) (hch : ∀ i : Int, 0 ≤ i → i < 24 → 0 ≤ σ 105 i ∧ σ 105 i ≤ 200) (h115 : jBd σ 115) : zMet l yX8_bestPair cX8_bestPair 8 (some .int) 6 (zPc D Y a σ [.ref (a 100), .int (iI wh)]) (zQi D Y a (fun r τ => (¬ (0 ≤ wh ∧ wh ≤ 1) → r = -2) ∧ (0 ≤ wh ∧ wh ≤ 1 → ∃ fo le : Int, jPr σ 16 fo le ∧ r = if fo < 0 ∨ wh = 0 then fo else le) ∧ jG σ τ ∧ jBd τ 115)) (inA a) := by
  refine z_start rfl (Nat.le_of_ble_eq_true rfl) hI ?_
  intro p e s m below meth c ls C hr hlocks hl hP
  have hS : va_S (inA a) s.heap s.heap [] := va_S.rf
  have hl : lv_has ls 8 [(0, .ref (a 100)), (1, .int (iI wh))] := hl
  skip
  refine z_iload_n C hl 1 rfl dX8_bestPair_0 ?_
  refine z_i2l C ⟨by omega, by omega⟩ dX8_bestPair_1 ?_
  refine z_lconst C (z := 0) rfl dX8_bestPair_2 ?_
  refine z_lconst C (z := 1) rfl dX8_bestPair_3 ?_
  refine z_sSi C hP (As := [.long (jI wh), .long (jI 0), .long (jI 1)]) lk_X8_86 (c_X8_in hI σ wh 0 1 ⟨by omega, by omega⟩ ⟨by omega, by omega⟩ ⟨by omega, by omega⟩) rfl hl.1 rfl (Nat.le_of_ble_eq_true rfl) ⟨Nat.le_of_ble_eq_true rfl, Nat.le_of_ble_eq_true rfl⟩ ⟨Nat.zero_le _, Nat.zero_le _⟩ dX8_bestPair_4 ?_
  by_cases b_4 : 0 ≤ wh ∧ wh ≤ 1
  · rw [show (if 0 ≤ wh ∧ wh ≤ 1 then (1 : Int) else 0) = 1 from if_pos b_4]
    refine z_ifT_ne C 13 dX8_bestPair_7 (by decide) ⟨by decide, by decide⟩ (by decide) ?_
    refine z_bipush C (by decide +kernel) dX8_bestPair_13 ?_
    refine z_istore_n C [1, 2, 0] [(0, .ref (a 100)), (1, .int (iI wh)), (2, .int (iI (-6)))] hl (by decide) rfl dX8_bestPair_15 (fun ls hl => ?_)
    refine z_ldc C (z := 1000000) wd_556 (by decide +kernel) dX8_bestPair_16 ?_
    refine z_istore_n C [1, 2, 3, 0] [(0, .ref (a 100)), (1, .int (iI wh)), (2, .int (iI (-6))), (3, .int (iI 1000000))] hl (by decide) rfl dX8_bestPair_18 (fun ls hl => ?_)
    refine z_iconst C dX8_bestPair_19 ?_
    refine z_istore C [1, 2, 3, 4, 0] [(0, .ref (a 100)), (1, .int (iI wh)), (2, .int (iI (-6))), (3, .int (iI 1000000)), (4, .int (iI 0))] hl (by decide) rfl dX8_bestPair_20 (fun ls hl => ?_)
    have L_22 : ∀ (n : Nat) (fo : Int) (le : Int) (f0 : Int) (τ : zS) (H : Heap) (locs : List Loc) (hP : GP D Y a τ H) (hS : va_S (inA a) s.heap H locs) (ls : Array Slot), (0 ≤ f0 ∧ f0 ≤ 4) → (jG σ τ) → (jBd τ 115) → (jPr σ (4 * f0) fo le) → (-6 ≤ fo ∧ fo ≤ 33) → (0 ≤ le ∧ le ≤ 1000000) → ((4 - f0).toNat) < n → lv_has ls 8 [(0, .ref (a 100)), (1, .int (iI wh)), (2, .int (iI fo)), (3, .int (iI le)), (4, .int (iI f0))] → W p l e (zR 6) s m ([.ref (a 100), .int (iI wh)] : List Value).toArray below meth c H locs 0 0 (MQ below (zQi D Y a (fun r τ => (¬ (0 ≤ wh ∧ wh ≤ 1) → r = -2) ∧ (0 ≤ wh ∧ wh ≤ 1 → ∃ fo le : Int, jPr σ 16 fo le ∧ r = if fo < 0 ∨ wh = 0 then fo else le) ∧ jG σ τ ∧ jBd τ 115)) ([.ref (a 100), .int (iI wh)] : List Value).toArray s 0 0 (inA a)) (F0 m 22 ls []) := by
      intro n
      induction n with
      | zero =>
        intros; omega
      | succ n ih_22 =>
        intro fo le f0 τ H locs hP hS ls jf fτ bτ ip ix iy hm hl
        refine z_iload C hl 4 rfl dX8_bestPair_22 ?_
        refine z_iconst C dX8_bestPair_24 ?_
        refine z_icmp_ge C 132 dX8_bestPair_25 (by decide) ⟨by omega, by omega⟩ ⟨by omega, by omega⟩ (fun c_25 => ?_) (fun c_25 => ?_)
        · refine z_iload_n C hl 2 rfl dX8_bestPair_132 ?_
          refine z_if_lt C 140 dX8_bestPair_133 (by decide) ⟨by omega, by omega⟩ (fun c_133 => ?_) (fun c_133 => ?_)
          · refine z_iload_n C hl 2 rfl dX8_bestPair_140 ?_
            refine z_goto C 145 dX8_bestPair_141 (by decide) ?_
            exact z_retQi C hP hS hr hlocks rfl (by exact ⟨fun h => absurd b_4 h, fun _ => ⟨fo, le, (by rw [show (16 : Int) = 4 * f0 from (by omega)]; exact ip), (by first | (rw [if_pos (by omega)]; done) | (rw [if_neg (by omega)]; done))⟩, fτ, bτ⟩) dX8_bestPair_145
          · refine z_iload_n C hl 1 rfl dX8_bestPair_136 ?_
            refine z_if_ne C 144 dX8_bestPair_137 (by decide) ⟨by omega, by omega⟩ (fun c_137 => ?_) (fun c_137 => ?_)
            · refine z_iload_n C hl 3 rfl dX8_bestPair_144 ?_
              exact z_retQi C hP hS hr hlocks rfl (by exact ⟨fun h => absurd b_4 h, fun _ => ⟨fo, le, (by rw [show (16 : Int) = 4 * f0 from (by omega)]; exact ip), (by first | (rw [if_pos (by omega)]; done) | (rw [if_neg (by omega)]; done))⟩, fτ, bτ⟩) dX8_bestPair_145
            · refine z_iload_n C hl 2 rfl dX8_bestPair_140 ?_
              refine z_goto C 145 dX8_bestPair_141 (by decide) ?_
              exact z_retQi C hP hS hr hlocks rfl (by exact ⟨fun h => absurd b_4 h, fun _ => ⟨fo, le, (by rw [show (16 : Int) = 4 * f0 from (by omega)]; exact ip), (by first | (rw [if_pos (by omega)]; done) | (rw [if_neg (by omega)]; done))⟩, fτ, bτ⟩) dX8_bestPair_145
        · refine z_iconst C dX8_bestPair_28 ?_
          refine z_istore C [1, 2, 3, 4, 5, 0] [(0, .ref (a 100)), (1, .int (iI wh)), (2, .int (iI fo)), (3, .int (iI le)), (4, .int (iI f0)), (5, .int (iI 0))] hl (by decide) rfl dX8_bestPair_29 (fun ls hl => ?_)
          have L_31 : ∀ (n : Nat) (fo : Int) (le : Int) (s0 : Int) (τ : zS) (H : Heap) (locs : List Loc) (hP : GP D Y a τ H) (hS : va_S (inA a) s.heap H locs) (ls : Array Slot), (0 ≤ s0 ∧ s0 ≤ 4) → (jG σ τ) → (jBd τ 115) → (jPr σ (4 * f0 + s0) fo le) → (-6 ≤ fo ∧ fo ≤ 33) → (0 ≤ le ∧ le ≤ 1000000) → ((4 - s0).toNat) < n → lv_has ls 8 [(0, .ref (a 100)), (1, .int (iI wh)), (2, .int (iI fo)), (3, .int (iI le)), (4, .int (iI f0)), (5, .int (iI s0))] → W p l e (zR 6) s m ([.ref (a 100), .int (iI wh)] : List Value).toArray below meth c H locs 0 0 (MQ below (zQi D Y a (fun r τ => (¬ (0 ≤ wh ∧ wh ≤ 1) → r = -2) ∧ (0 ≤ wh ∧ wh ≤ 1 → ∃ fo le : Int, jPr σ 16 fo le ∧ r = if fo < 0 ∨ wh = 0 then fo else le) ∧ jG σ τ ∧ jBd τ 115)) ([.ref (a 100), .int (iI wh)] : List Value).toArray s 0 0 (inA a)) (F0 m 31 ls []) := by
            intro n
            induction n with
            | zero =>
              intros; omega
            | succ n ih_31 =>
              intro fo le s0 τ H locs hP hS ls jr fτ bτ ip ix iy hm hl
              refine z_iload C hl 5 rfl dX8_bestPair_31 ?_
              refine z_iconst C dX8_bestPair_33 ?_
              refine z_icmp_ge C 126 dX8_bestPair_34 (by decide) ⟨by omega, by omega⟩ ⟨by omega, by omega⟩ (fun c_34 => ?_) (fun c_34 => ?_)
              · refine z_iinc C 4 [1, 2, 3, 4, 0, 5] [(0, .ref (a 100)), (1, .int (iI wh)), (2, .int (iI fo)), (3, .int (iI le)), (4, .int (iI (f0 + 1))), (5, .int (iI s0))] hl rfl (by decide) rfl dX8_bestPair_126 (fun ls hl => ?_)
                refine z_goto C 22 dX8_bestPair_129 (by decide) ?_
                exact ih_22 fo le (f0 + 1) τ H locs hP hS ls (by omega) (by exact fτ) (by exact bτ) (by rw [show 4 * (f0 + 1) = 4 * f0 + s0 from (by omega)]; exact ip) (by omega) (by omega) (by omega) (lv_sub hl [0, 1, 2, 3, 4] rfl)
              · refine z_aload_n C hl 0 rfl dX8_bestPair_37 ?_
                refine z_iload C hl 4 rfl dX8_bestPair_38 ?_
                refine z_vSi C hP (As := [.int (iI f0)]) lk_X8_110 (c_X8_isThere hI τ f0 ⟨by omega, by omega⟩ (by rw [fτ 100 (by omega)]; exact hrb)) ob_100 rfl rfl rfl hl.1 rfl (Nat.le_of_ble_eq_true rfl) ⟨Nat.le_of_ble_eq_true rfl, Nat.le_of_ble_eq_true rfl⟩ ⟨Nat.zero_le _, Nat.zero_le _⟩ dX8_bestPair_40 ?_
                by_cases b_40 : 0 ≤ f0 ∧ f0 ≤ 3 ∧ mBit (τ 100 0) f0 = 1
                · rw [show (if 0 ≤ f0 ∧ f0 ≤ 3 ∧ mBit (τ 100 0) f0 = 1 then (1 : Int) else 0) = 1 from if_pos b_40]
                  refine z_ifF_eq C 120 dX8_bestPair_43 (by decide) ⟨by decide, by decide⟩ (by decide) ?_
                  refine z_aload_n C hl 0 rfl dX8_bestPair_46 ?_
                  refine z_iload C hl 5 rfl dX8_bestPair_47 ?_
                  refine z_vSi C hP (As := [.int (iI s0)]) lk_X8_110 (c_X8_isThere hI τ s0 ⟨by omega, by omega⟩ (by rw [fτ 100 (by omega)]; exact hrb)) ob_100 rfl rfl rfl hl.1 rfl (Nat.le_of_ble_eq_true rfl) ⟨Nat.le_of_ble_eq_true rfl, Nat.le_of_ble_eq_true rfl⟩ ⟨Nat.zero_le _, Nat.zero_le _⟩ dX8_bestPair_49 ?_
                  by_cases b_49 : 0 ≤ s0 ∧ s0 ≤ 3 ∧ mBit (τ 100 0) s0 = 1
                  · rw [show (if 0 ≤ s0 ∧ s0 ≤ 3 ∧ mBit (τ 100 0) s0 = 1 then (1 : Int) else 0) = 1 from if_pos b_49]
                    refine z_ifF_eq C 120 dX8_bestPair_52 (by decide) ⟨by decide, by decide⟩ (by decide) ?_
                    refine z_iload C hl 4 rfl dX8_bestPair_55 ?_
                    refine z_iload C hl 5 rfl dX8_bestPair_57 ?_
                    refine z_icmp_eq C 120 dX8_bestPair_59 (by decide) ⟨by omega, by omega⟩ ⟨by omega, by omega⟩ (fun c_59 => ?_) (fun c_59 => ?_)
                    · refine z_iinc C 5 [1, 2, 3, 4, 5, 0] [(0, .ref (a 100)), (1, .int (iI wh)), (2, .int (iI fo)), (3, .int (iI le)), (4, .int (iI f0)), (5, .int (iI (s0 + 1)))] hl rfl (by decide) rfl dX8_bestPair_120 (fun ls hl => ?_)
                      refine z_goto C 31 dX8_bestPair_123 (by decide) ?_
                      exact ih_31 fo le (s0 + 1) τ H locs hP hS ls (by omega) (by first | exact fτ | exact fτ) (by first | exact bτ | exact hp67.2.2.2.2.1) (by first | exact jPr_y (f := f0) (r := s0) (by omega) (by omega) ip hv (by omega) (by omega) (by omega) | exact jPr_n (by omega) (by omega) ip (fun _ => (by omega)) | exact jPr_n (by omega) (by omega) ip (fun q => absurd ⟨(by omega), (by omega), (by rw [fτ 100 (by omega)]; exact q.1)⟩ b_40) | exact jPr_n (by omega) (by omega) ip (fun q => absurd ⟨(by omega), (by omega), (by rw [fτ 100 (by omega)]; exact q.2.1)⟩ b_49) | exact jPr_n (by omega) (by omega) ip (fun q => absurd c_59 q.2.2)) (by omega) (by omega) (by omega) (lv_sub hl [0, 1, 2, 3, 4, 5] rfl)
                    · refine z_aload_n C hl 0 rfl dX8_bestPair_62 ?_
                      refine z_iload C hl 4 rfl dX8_bestPair_63 ?_
                      refine z_iload C hl 5 rfl dX8_bestPair_65 ?_
                      refine z_vQi hS C hP (As := [.int (iI f0), .int (iI s0)]) lk_X8_252 (c_X8_soonestOf hI τ f0 s0 ⟨by omega, by omega⟩ ⟨by omega, by omega⟩ (by rw [fτ 100 (by omega)]; exact hnm) (by rw [fτ 101 (by omega), fτ 102 (by omega), fτ 103 (by omega)]; exact hrd) (by rw [fτ 100 (by omega)]; exact hho) (by rw [fτ 100 (by omega)]; exact hpz) (by rw [fτ 105 (by omega)]; exact hch) bτ) ob_100 rfl rfl rfl hl.1 rfl (Nat.le_of_ble_eq_true rfl) ⟨Nat.le_of_ble_eq_true rfl, Nat.le_of_ble_eq_true rfl⟩ ⟨Nat.zero_le _, Nat.zero_le _⟩ dX8_bestPair_67 (fun r1 t2 H locs hp67 hP hS => ?_)
                      have ft2 : jG σ t2 := fun c hc => by rw [hp67.2.1 c hc, fτ c hc]
                      have hr0 : r1 = jS0 σ f0 s0 := by rw [hp67.1, jS0_c fτ]
                      have hsb := jS0_b hpz f0 s0
                      have hv : jPv σ f0 s0 := ⟨by rw [← fτ 100 (by omega)]; exact b_40.2.2, by rw [← fτ 100 (by omega)]; exact b_49.2.2, c_59⟩
                      refine z_istore C [1, 2, 3, 4, 5, 6, 0] [(0, .ref (a 100)), (1, .int (iI wh)), (2, .int (iI fo)), (3, .int (iI le)), (4, .int (iI f0)), (5, .int (iI s0)), (6, .int (iI r1))] hl (by decide) rfl dX8_bestPair_70 (fun ls hl => ?_)
                      refine z_iload C hl 6 rfl dX8_bestPair_72 ?_
                      refine z_if_lt C 87 dX8_bestPair_74 (by decide) ⟨by omega, by omega⟩ (fun c_74 => ?_) (fun c_74 => ?_)
                      · refine z_iconst C dX8_bestPair_87 ?_
                        refine z_istore C [1, 2, 3, 4, 5, 6, 7, 0] [(0, .ref (a 100)), (1, .int (iI wh)), (2, .int (iI fo)), (3, .int (iI le)), (4, .int (iI f0)), (5, .int (iI s0)), (6, .int (iI r1)), (7, .int (iI 0))] hl (by decide) rfl dX8_bestPair_88 (fun ls hl => ?_)
                        refine z_iload C hl 7 rfl dX8_bestPair_90 ?_
                        refine z_ifT_eq C 106 dX8_bestPair_92 (by decide) ⟨by decide, by decide⟩ (by decide) ?_
                        refine z_iload_n C hl 2 rfl dX8_bestPair_106 ?_
                        refine z_istore_n C [1, 2, 0, 3, 4, 5, 6, 7] [(0, .ref (a 100)), (1, .int (iI wh)), (2, .int (iI fo)), (3, .int (iI le)), (4, .int (iI f0)), (5, .int (iI s0)), (6, .int (iI r1)), (7, .int (iI 0))] hl (by decide) rfl dX8_bestPair_107 (fun ls hl => ?_)
                        refine z_iload C hl 7 rfl dX8_bestPair_108 ?_
                        refine z_ifT_eq C 118 dX8_bestPair_110 (by decide) ⟨by decide, by decide⟩ (by decide) ?_
                        refine z_iload_n C hl 3 rfl dX8_bestPair_118 ?_
                        refine z_istore_n C [1, 2, 3, 0, 4, 5, 6, 7] [(0, .ref (a 100)), (1, .int (iI wh)), (2, .int (iI fo)), (3, .int (iI le)), (4, .int (iI f0)), (5, .int (iI s0)), (6, .int (iI r1)), (7, .int (iI 0))] hl (by decide) rfl dX8_bestPair_119 (fun ls hl => ?_)
                        refine z_iinc C 5 [1, 2, 3, 4, 5, 0, 6, 7] [(0, .ref (a 100)), (1, .int (iI wh)), (2, .int (iI fo)), (3, .int (iI le)), (4, .int (iI f0)), (5, .int (iI (s0 + 1))), (6, .int (iI r1)), (7, .int (iI 0))] hl rfl (by decide) rfl dX8_bestPair_120 (fun ls hl => ?_)
                        refine z_goto C 31 dX8_bestPair_123 (by decide) ?_
                        exact ih_31 fo le (s0 + 1) t2 H locs hP hS ls (by omega) (by first | exact ft2 | exact fτ) (by first | exact bτ | exact hp67.2.2.2.2.1) (by first | exact jPr_y (f := f0) (r := s0) (by omega) (by omega) ip hv (by omega) (by omega) (by omega) | exact jPr_n (by omega) (by omega) ip (fun _ => (by omega)) | exact jPr_n (by omega) (by omega) ip (fun q => absurd ⟨(by omega), (by omega), (by rw [fτ 100 (by omega)]; exact q.1)⟩ b_40) | exact jPr_n (by omega) (by omega) ip (fun q => absurd ⟨(by omega), (by omega), (by rw [fτ 100 (by omega)]; exact q.2.1)⟩ b_49) | exact jPr_n (by omega) (by omega) ip (fun q => absurd c_59 q.2.2)) (by omega) (by omega) (by omega) (lv_sub hl [0, 1, 2, 3, 4, 5] rfl)
                      · refine z_iload C hl 6 rfl dX8_bestPair_77 ?_
                        refine z_iload_n C hl 3 rfl dX8_bestPair_79 ?_
                        refine z_icmp_ge C 87 dX8_bestPair_80 (by decide) ⟨by omega, by omega⟩ ⟨by omega, by omega⟩ (fun c_80 => ?_) (fun c_80 => ?_)
                        · refine z_iconst C dX8_bestPair_87 ?_
                          refine z_istore C [1, 2, 3, 4, 5, 6, 7, 0] [(0, .ref (a 100)), (1, .int (iI wh)), (2, .int (iI fo)), (3, .int (iI le)), (4, .int (iI f0)), (5, .int (iI s0)), (6, .int (iI r1)), (7, .int (iI 0))] hl (by decide) rfl dX8_bestPair_88 (fun ls hl => ?_)
                          refine z_iload C hl 7 rfl dX8_bestPair_90 ?_
                          refine z_ifT_eq C 106 dX8_bestPair_92 (by decide) ⟨by decide, by decide⟩ (by decide) ?_
                          refine z_iload_n C hl 2 rfl dX8_bestPair_106 ?_
                          refine z_istore_n C [1, 2, 0, 3, 4, 5, 6, 7] [(0, .ref (a 100)), (1, .int (iI wh)), (2, .int (iI fo)), (3, .int (iI le)), (4, .int (iI f0)), (5, .int (iI s0)), (6, .int (iI r1)), (7, .int (iI 0))] hl (by decide) rfl dX8_bestPair_107 (fun ls hl => ?_)
                          refine z_iload C hl 7 rfl dX8_bestPair_108 ?_
                          refine z_ifT_eq C 118 dX8_bestPair_110 (by decide) ⟨by decide, by decide⟩ (by decide) ?_
                          refine z_iload_n C hl 3 rfl dX8_bestPair_118 ?_
                          refine z_istore_n C [1, 2, 3, 0, 4, 5, 6, 7] [(0, .ref (a 100)), (1, .int (iI wh)), (2, .int (iI fo)), (3, .int (iI le)), (4, .int (iI f0)), (5, .int (iI s0)), (6, .int (iI r1)), (7, .int (iI 0))] hl (by decide) rfl dX8_bestPair_119 (fun ls hl => ?_)
                          refine z_iinc C 5 [1, 2, 3, 4, 5, 0, 6, 7] [(0, .ref (a 100)), (1, .int (iI wh)), (2, .int (iI fo)), (3, .int (iI le)), (4, .int (iI f0)), (5, .int (iI (s0 + 1))), (6, .int (iI r1)), (7, .int (iI 0))] hl rfl (by decide) rfl dX8_bestPair_120 (fun ls hl => ?_)
                          refine z_goto C 31 dX8_bestPair_123 (by decide) ?_
                          exact ih_31 fo le (s0 + 1) t2 H locs hP hS ls (by omega) (by first | exact ft2 | exact fτ) (by first | exact bτ | exact hp67.2.2.2.2.1) (by first | exact jPr_y (f := f0) (r := s0) (by omega) (by omega) ip hv (by omega) (by omega) (by omega) | exact jPr_n (by omega) (by omega) ip (fun _ => (by omega)) | exact jPr_n (by omega) (by omega) ip (fun q => absurd ⟨(by omega), (by omega), (by rw [fτ 100 (by omega)]; exact q.1)⟩ b_40) | exact jPr_n (by omega) (by omega) ip (fun q => absurd ⟨(by omega), (by omega), (by rw [fτ 100 (by omega)]; exact q.2.1)⟩ b_49) | exact jPr_n (by omega) (by omega) ip (fun q => absurd c_59 q.2.2)) (by omega) (by omega) (by omega) (lv_sub hl [0, 1, 2, 3, 4, 5] rfl)
                        · refine z_iconst C dX8_bestPair_83 ?_
                          refine z_goto C 88 dX8_bestPair_84 (by decide) ?_
                          refine z_istore C [1, 2, 3, 4, 5, 6, 7, 0] [(0, .ref (a 100)), (1, .int (iI wh)), (2, .int (iI fo)), (3, .int (iI le)), (4, .int (iI f0)), (5, .int (iI s0)), (6, .int (iI r1)), (7, .int (iI 1))] hl (by decide) rfl dX8_bestPair_88 (fun ls hl => ?_)
                          refine z_iload C hl 7 rfl dX8_bestPair_90 ?_
                          refine z_ifF_eq C 106 dX8_bestPair_92 (by decide) ⟨by decide, by decide⟩ (by decide) ?_
                          refine z_bipush C (by decide +kernel) dX8_bestPair_95 ?_
                          refine z_iload C hl 4 rfl dX8_bestPair_97 ?_
                          refine z_imul C dX8_bestPair_99 ?_
                          refine z_iload C hl 5 rfl dX8_bestPair_100 ?_
                          refine z_iadd C dX8_bestPair_102 ?_
                          refine z_goto C 107 dX8_bestPair_103 (by decide) ?_
                          refine z_topi (fun x3 hx3 => ?_)
                          refine z_istore_n C [1, 2, 0, 3, 4, 5, 6, 7] [(0, .ref (a 100)), (1, .int (iI wh)), (2, .int (iI x3)), (3, .int (iI le)), (4, .int (iI f0)), (5, .int (iI s0)), (6, .int (iI r1)), (7, .int (iI 1))] hl (by decide) rfl dX8_bestPair_107 (fun ls hl => ?_)
                          refine z_iload C hl 7 rfl dX8_bestPair_108 ?_
                          refine z_ifF_eq C 118 dX8_bestPair_110 (by decide) ⟨by decide, by decide⟩ (by decide) ?_
                          refine z_iload C hl 6 rfl dX8_bestPair_113 ?_
                          refine z_goto C 119 dX8_bestPair_115 (by decide) ?_
                          refine z_istore_n C [1, 2, 3, 0, 4, 5, 6, 7] [(0, .ref (a 100)), (1, .int (iI wh)), (2, .int (iI x3)), (3, .int (iI r1)), (4, .int (iI f0)), (5, .int (iI s0)), (6, .int (iI r1)), (7, .int (iI 1))] hl (by decide) rfl dX8_bestPair_119 (fun ls hl => ?_)
                          refine z_iinc C 5 [1, 2, 3, 4, 5, 0, 6, 7] [(0, .ref (a 100)), (1, .int (iI wh)), (2, .int (iI x3)), (3, .int (iI r1)), (4, .int (iI f0)), (5, .int (iI (s0 + 1))), (6, .int (iI r1)), (7, .int (iI 1))] hl rfl (by decide) rfl dX8_bestPair_120 (fun ls hl => ?_)
                          refine z_goto C 31 dX8_bestPair_123 (by decide) ?_
                          exact ih_31 x3 r1 (s0 + 1) t2 H locs hP hS ls (by omega) (by first | exact ft2 | exact fτ) (by first | exact bτ | exact hp67.2.2.2.2.1) (by first | exact jPr_y (f := f0) (r := s0) (by omega) (by omega) ip hv (by omega) (by omega) (by omega) | exact jPr_n (by omega) (by omega) ip (fun _ => (by omega)) | exact jPr_n (by omega) (by omega) ip (fun q => absurd ⟨(by omega), (by omega), (by rw [fτ 100 (by omega)]; exact q.1)⟩ b_40) | exact jPr_n (by omega) (by omega) ip (fun q => absurd ⟨(by omega), (by omega), (by rw [fτ 100 (by omega)]; exact q.2.1)⟩ b_49) | exact jPr_n (by omega) (by omega) ip (fun q => absurd c_59 q.2.2)) (by omega) (by omega) (by omega) (lv_sub hl [0, 1, 2, 3, 4, 5] rfl)
                  · rw [show (if 0 ≤ s0 ∧ s0 ≤ 3 ∧ mBit (τ 100 0) s0 = 1 then (1 : Int) else 0) = 0 from if_neg b_49]
                    refine z_ifT_eq C 120 dX8_bestPair_52 (by decide) ⟨by decide, by decide⟩ (by decide) ?_
                    refine z_iinc C 5 [1, 2, 3, 4, 5, 0] [(0, .ref (a 100)), (1, .int (iI wh)), (2, .int (iI fo)), (3, .int (iI le)), (4, .int (iI f0)), (5, .int (iI (s0 + 1)))] hl rfl (by decide) rfl dX8_bestPair_120 (fun ls hl => ?_)
                    refine z_goto C 31 dX8_bestPair_123 (by decide) ?_
                    exact ih_31 fo le (s0 + 1) τ H locs hP hS ls (by omega) (by first | exact fτ | exact fτ) (by first | exact bτ | exact hp67.2.2.2.2.1) (by first | exact jPr_y (f := f0) (r := s0) (by omega) (by omega) ip hv (by omega) (by omega) (by omega) | exact jPr_n (by omega) (by omega) ip (fun _ => (by omega)) | exact jPr_n (by omega) (by omega) ip (fun q => absurd ⟨(by omega), (by omega), (by rw [fτ 100 (by omega)]; exact q.1)⟩ b_40) | exact jPr_n (by omega) (by omega) ip (fun q => absurd ⟨(by omega), (by omega), (by rw [fτ 100 (by omega)]; exact q.2.1)⟩ b_49) | exact jPr_n (by omega) (by omega) ip (fun q => absurd c_59 q.2.2)) (by omega) (by omega) (by omega) (lv_sub hl [0, 1, 2, 3, 4, 5] rfl)
                · rw [show (if 0 ≤ f0 ∧ f0 ≤ 3 ∧ mBit (τ 100 0) f0 = 1 then (1 : Int) else 0) = 0 from if_neg b_40]
                  refine z_ifT_eq C 120 dX8_bestPair_43 (by decide) ⟨by decide, by decide⟩ (by decide) ?_
                  refine z_iinc C 5 [1, 2, 3, 4, 5, 0] [(0, .ref (a 100)), (1, .int (iI wh)), (2, .int (iI fo)), (3, .int (iI le)), (4, .int (iI f0)), (5, .int (iI (s0 + 1)))] hl rfl (by decide) rfl dX8_bestPair_120 (fun ls hl => ?_)
                  refine z_goto C 31 dX8_bestPair_123 (by decide) ?_
                  exact ih_31 fo le (s0 + 1) τ H locs hP hS ls (by omega) (by first | exact fτ | exact fτ) (by first | exact bτ | exact hp67.2.2.2.2.1) (by first | exact jPr_y (f := f0) (r := s0) (by omega) (by omega) ip hv (by omega) (by omega) (by omega) | exact jPr_n (by omega) (by omega) ip (fun _ => (by omega)) | exact jPr_n (by omega) (by omega) ip (fun q => absurd ⟨(by omega), (by omega), (by rw [fτ 100 (by omega)]; exact q.1)⟩ b_40) | exact jPr_n (by omega) (by omega) ip (fun q => absurd ⟨(by omega), (by omega), (by rw [fτ 100 (by omega)]; exact q.2.1)⟩ b_49) | exact jPr_n (by omega) (by omega) ip (fun q => absurd c_59 q.2.2)) (by omega) (by omega) (by omega) (lv_sub hl [0, 1, 2, 3, 4, 5] rfl)
          exact L_31 _ fo le 0 τ _ _ hP hS ls (by omega) (by exact fτ) (by exact bτ) (by rw [Int.add_zero]; exact ip) (by omega) (by omega) (Nat.lt_succ_self _) (lv_sub hl [0, 1, 2, 3, 4, 5] rfl)
    exact L_22 _ (-6) 1000000 0 σ _ _ hP hS ls (by omega) (by intro c hc; rfl) (by exact h115) (by exact Or.inl ⟨rfl, rfl, fun f r a1 a2 a3 a4 a5 a6 => (by exfalso; omega)⟩) (by omega) (by omega) (Nat.lt_succ_self _) (lv_sub hl [0, 1, 2, 3, 4] rfl)
  · rw [show (if 0 ≤ wh ∧ wh ≤ 1 then (1 : Int) else 0) = 0 from if_neg b_4]
    refine z_ifF_ne C 13 dX8_bestPair_7 (by decide) ⟨by decide, by decide⟩ (by decide) ?_
    refine z_bipush C (by decide +kernel) dX8_bestPair_10 ?_
    exact z_retQi C hP hS hr hlocks rfl (by exact ⟨fun _ => rfl, fun h => absurd h b_4, fun _ _ => rfl, h115⟩) dX8_bestPair_12

set_option maxRecDepth 20000 in
set_option maxHeartbeats 4000000 in
theorem c_X8_believed {l : Launch} {D : va_G} {Y : Nat → ClassId} {a : Int → Nat} (hI : zI a) (σ : zS) (tr rr : Int) (hrr : 0 ≤ rr ∧ rr ≤ 3) (htk0 : 0 ≤ σ 104 rr ∧ σ 104 rr ≤ 50) (h29 : 0 ≤ σ 100 29 ∧ σ 100 29 ≤ 10000) (h30 : 0 ≤ σ 100 30 ∧ σ 100 30 ≤ 10000) (ht : 0 ≤ tr ∧ tr ≤ 10000) : zMet l yX8_believed cX8_believed 5 (some .int) 0 (zPc D Y a σ [.ref (a 100), .int (iI tr), .int (iI rr)]) (zSi (mBel (σ 100 29 + σ 100 30) tr (σ 104 rr))) zNo := by
  refine z_start rfl (Nat.le_of_ble_eq_true rfl) hI ?_
  intro p e s m below meth c ls C hr hlocks hl hP
  have hl : lv_has ls 5 [(0, .ref (a 100)), (1, .int (iI tr)), (2, .int (iI rr))] := hl
  refine z_aload_n C hl 0 rfl dX8_believed_0 ?_
  refine zg_X8_174 C hP dX8_believed_1 ?_
  refine z_aload_n C hl 0 rfl dX8_believed_4 ?_
  refine zg_X8_177 C hP dX8_believed_5 ?_
  refine z_iadd C dX8_believed_8 ?_
  refine z_topi (fun x1 hx1 => ?_)
  refine z_istore_n C [1, 2, 3, 0] [(0, .ref (a 100)), (1, .int (iI tr)), (2, .int (iI rr)), (3, .int (iI x1))] hl (by decide) rfl dX8_believed_9 (fun ls hl => ?_)
  refine z_iload_n C hl 3 rfl dX8_believed_10 ?_
  refine z_if_ne C 18 dX8_believed_11 (by decide) ⟨by omega, by omega⟩ (fun c_11 => ?_) (fun c_11 => ?_)
  · refine z_bipush C (by decide +kernel) dX8_believed_18 ?_
    refine z_iload_n C hl 1 rfl dX8_believed_20 ?_
    refine z_imul C dX8_believed_21 ?_
    refine z_iload_n C hl 3 rfl dX8_believed_22 ?_
    refine z_idiv C ⟨by omega, by omega, by omega, by omega⟩ dX8_believed_23 ?_
    have hdv : 0 ≤ ((100 * tr) / x1) ∧ ((100 * tr) / x1) ≤ 1000000 := by first | omega | (have hd1 : 0 ≤ 100 * tr / x1 := Int.ediv_nonneg (by omega) (by omega); have hd2 : 100 * tr / x1 ≤ 100 * tr := Int.ediv_le_self _ (by omega); omega)
    refine z_aload_n C hl 0 rfl dX8_believed_24 ?_
    refine zg_X8_19 C hP dX8_believed_25 ?_
    refine z_iload_n C hl 2 rfl dX8_believed_28 ?_
    refine z_iald C hP ia_104 ⟨by omega, by omega⟩ dX8_believed_29 ?_
    refine z_iadd C dX8_believed_30 ?_
    refine z_topi (fun x2 hx2 => ?_)
    refine z_istore C [1, 2, 3, 4, 0] [(0, .ref (a 100)), (1, .int (iI tr)), (2, .int (iI rr)), (3, .int (iI x1)), (4, .int (iI x2))] hl (by decide) rfl dX8_believed_31 (fun ls hl => ?_)
    refine z_iload C hl 4 rfl dX8_believed_33 ?_
    refine z_bipush C (by decide +kernel) dX8_believed_35 ?_
    refine z_icmp_ge C 45 dX8_believed_37 (by decide) ⟨by omega, by omega⟩ ⟨by omega, by omega⟩ (fun c_37 => ?_) (fun c_37 => ?_)
    · refine z_bipush C (by decide +kernel) dX8_believed_45 ?_
      exact z_retSi C hr hlocks rfl (by unfold mBel; first | (rw [if_pos (by omega)]; omega) | (rw [if_neg (by omega), hx1]; omega)) dX8_believed_47
    · refine z_iload C hl 4 rfl dX8_believed_40 ?_
      refine z_goto C 47 dX8_believed_42 (by decide) ?_
      exact z_retSi C hr hlocks rfl (by unfold mBel; first | (rw [if_pos (by omega)]; omega) | (rw [if_neg (by omega), hx1]; omega)) dX8_believed_47
  · refine z_iconst C dX8_believed_14 ?_
    refine z_goto C 24 dX8_believed_15 (by decide) ?_
    have hdv : 0 ≤ 0 ∧ 0 ≤ 1000000 := by first | omega | (have hd1 : 0 ≤ 100 * tr / x1 := Int.ediv_nonneg (by omega) (by omega); have hd2 : 100 * tr / x1 ≤ 100 * tr := Int.ediv_le_self _ (by omega); omega)
    refine z_aload_n C hl 0 rfl dX8_believed_24 ?_
    refine zg_X8_19 C hP dX8_believed_25 ?_
    refine z_iload_n C hl 2 rfl dX8_believed_28 ?_
    refine z_iald C hP ia_104 ⟨by omega, by omega⟩ dX8_believed_29 ?_
    refine z_iadd C dX8_believed_30 ?_
    refine z_topi (fun x3 hx3 => ?_)
    refine z_istore C [1, 2, 3, 4, 0] [(0, .ref (a 100)), (1, .int (iI tr)), (2, .int (iI rr)), (3, .int (iI x1)), (4, .int (iI x3))] hl (by decide) rfl dX8_believed_31 (fun ls hl => ?_)
    refine z_iload C hl 4 rfl dX8_believed_33 ?_
    refine z_bipush C (by decide +kernel) dX8_believed_35 ?_
    refine z_icmp_ge C 45 dX8_believed_37 (by decide) ⟨by omega, by omega⟩ ⟨by omega, by omega⟩ (fun c_37 => ?_) (fun c_37 => ?_)
    · refine z_bipush C (by decide +kernel) dX8_believed_45 ?_
      exact z_retSi C hr hlocks rfl (by unfold mBel; first | (rw [if_pos (by omega)]; omega) | (rw [if_neg (by omega), hx1]; omega)) dX8_believed_47
    · refine z_iload C hl 4 rfl dX8_believed_40 ?_
      refine z_goto C 47 dX8_believed_42 (by decide) ?_
      exact z_retSi C hr hlocks rfl (by unfold mBel; first | (rw [if_pos (by omega)]; omega) | (rw [if_neg (by omega), hx1]; omega)) dX8_believed_47

set_option maxRecDepth 20000 in
set_option maxHeartbeats 4000000 in
theorem c_X8_quarrel {l : Launch} {D : va_G} {Y : Nat → ClassId} {a : Int → Nat} (hI : zI a) (σ : zS) (n0 : Int) (r1 : R3 n0) (hca : 0 ≤ σ 100 9 ∧ σ 100 9 ≤ 50) (htk : ∀ r : Int, 0 ≤ r → r ≤ 3 → 0 ≤ σ 104 r ∧ σ 104 r ≤ 50) (hrb : 0 ≤ σ 100 0 ∧ σ 100 0 ≤ 15) (hse : (0 ≤ σ 100 5 ∧ σ 100 5 ≤ 3) ∧ (0 ≤ σ 100 6 ∧ σ 100 6 ≤ 3)) (hnm : 1 ≤ σ 100 11 ∧ σ 100 11 ≤ 24) (hpm : 0 ≤ σ 100 18 ∧ σ 100 18 ≤ 110) (hpq : ∀ i : Int, 0 ≤ i → i < 110 → 0 ≤ σ 110 i ∧ σ 110 i ≤ 126) (hrd : ∀ r : Int, 0 ≤ r → r ≤ 3 → (0 ≤ σ 101 r ∧ σ 101 r ≤ 20) ∧ (0 ≤ σ 102 r ∧ σ 102 r ≤ 10) ∧ (0 ≤ σ 103 r ∧ σ 103 r ≤ 9)) (hho : 5 ≤ σ 100 7 ∧ σ 100 7 ≤ 20) (hpz : 0 ≤ σ 100 8 ∧ σ 100 8 ≤ 99) (hch : ∀ i : Int, 0 ≤ i → i < 24 → 0 ≤ σ 105 i ∧ σ 105 i ≤ 200) : zMet l yX8_quarrel cX8_quarrel 5 (some .int) 7 (zPc D Y a σ [.ref (a 100), .int (iI n0)]) (zQi D Y a (fun r τ => (¬ (mBit (σ 100 0) (σ 100 5) = 1 ∧ mBit (σ 100 0) (σ 100 6) = 1 ∧ σ 100 5 ≠ σ 100 6) → r = -3) ∧ (mBit (σ 100 0) (σ 100 5) = 1 ∧ mBit (σ 100 0) (σ 100 6) = 1 ∧ σ 100 5 ≠ σ 100 6 → ¬ (0 ≤ n0 ∧ n0 ≤ 99) → r = -2) ∧ (mBit (σ 100 0) (σ 100 5) = 1 ∧ mBit (σ 100 0) (σ 100 6) = 1 ∧ σ 100 5 ≠ σ 100 6 → 0 ≤ n0 ∧ n0 ≤ 99 → (jNo σ ∧ r = -5) ∨ ∃ ρ : zS, jYes σ ρ ∧ r = mQr (max 0 (mBel (mSum (jTF ρ) (σ 100 11).toNat + mSum (jTB ρ) (σ 100 11).toNat) (mSum (jTF ρ) (σ 100 11).toNat) (σ 104 (σ 100 5)) + mBel (mSum (jTF ρ) (σ 100 11).toNat + mSum (jTB ρ) (σ 100 11).toNat) (mSum (jTB ρ) (σ 100 11).toNat) (σ 104 (σ 100 6)) - 100)) (σ 100 9) n0.toNat) ∧ jFr σ τ)) (inA a) := by
  refine z_start rfl (Nat.le_of_ble_eq_true rfl) hI ?_
  intro p e s m below meth c ls C hr hlocks hl hP
  have hS : va_S (inA a) s.heap s.heap [] := va_S.rf
  have hl : lv_has ls 5 [(0, .ref (a 100)), (1, .int (iI n0))] := hl
  skip
  refine z_aload_n C hl 0 rfl dX8_quarrel_0 ?_
  refine z_vSi C hP (As := []) lk_X8_206 (c_X8_isNobody hI σ  hrb hse) ob_100 rfl rfl rfl hl.1 rfl (Nat.le_of_ble_eq_true rfl) ⟨Nat.le_of_ble_eq_true rfl, Nat.le_of_ble_eq_true rfl⟩ ⟨Nat.zero_le _, Nat.zero_le _⟩ dX8_quarrel_1 ?_
  by_cases b_1 : ¬ (mBit (σ 100 0) (σ 100 5) = 1 ∧ mBit (σ 100 0) (σ 100 6) = 1 ∧ σ 100 5 ≠ σ 100 6)
  · rw [show (if ¬ (mBit (σ 100 0) (σ 100 5) = 1 ∧ mBit (σ 100 0) (σ 100 6) = 1 ∧ σ 100 5 ≠ σ 100 6) then (1 : Int) else 0) = 1 from if_pos b_1]
    refine z_ifF_eq C 10 dX8_quarrel_4 (by decide) ⟨by decide, by decide⟩ (by decide) ?_
    refine z_bipush C (by decide +kernel) dX8_quarrel_7 ?_
    exact z_retQi C hP hS hr hlocks rfl (by exact ⟨fun _ => rfl, fun h => absurd h b_1, fun h => absurd h b_1, jFr_0 _⟩) dX8_quarrel_9
  · rw [show (if ¬ (mBit (σ 100 0) (σ 100 5) = 1 ∧ mBit (σ 100 0) (σ 100 6) = 1 ∧ σ 100 5 ≠ σ 100 6) then (1 : Int) else 0) = 0 from if_neg b_1]
    refine z_ifT_eq C 10 dX8_quarrel_4 (by decide) ⟨by decide, by decide⟩ (by decide) ?_
    refine z_iload_n C hl 1 rfl dX8_quarrel_10 ?_
    refine z_i2l C ⟨by omega, by omega⟩ dX8_quarrel_11 ?_
    refine z_lconst C (z := 0) rfl dX8_quarrel_12 ?_
    refine z_ldc2 C (z := 99) wd_214 (by decide +kernel) dX8_quarrel_13 ?_
    refine z_sSi C hP (As := [.long (jI n0), .long (jI 0), .long (jI 99)]) lk_X8_86 (c_X8_in hI σ n0 0 99 ⟨by omega, by omega⟩ ⟨by omega, by omega⟩ ⟨by omega, by omega⟩) rfl hl.1 rfl (Nat.le_of_ble_eq_true rfl) ⟨Nat.le_of_ble_eq_true rfl, Nat.le_of_ble_eq_true rfl⟩ ⟨Nat.zero_le _, Nat.zero_le _⟩ dX8_quarrel_16 ?_
    by_cases b_16 : 0 ≤ n0 ∧ n0 ≤ 99
    · rw [show (if 0 ≤ n0 ∧ n0 ≤ 99 then (1 : Int) else 0) = 1 from if_pos b_16]
      refine z_ifT_ne C 25 dX8_quarrel_19 (by decide) ⟨by decide, by decide⟩ (by decide) ?_
      refine z_aload_n C hl 0 rfl dX8_quarrel_25 ?_
      refine z_vQi hS C hP (As := []) lk_X8_215 (c_X8_isRefused hI σ  hrb hse hnm hpm hpq hrd hho hpz hch) ob_100 rfl rfl rfl hl.1 rfl (Nat.le_of_ble_eq_true rfl) ⟨Nat.le_of_ble_eq_true rfl, Nat.le_of_ble_eq_true rfl⟩ ⟨Nat.zero_le _, Nat.zero_le _⟩ dX8_quarrel_26 (fun r1 t2 H locs hp26 hP hS => ?_)
      have ft2 : jFr σ t2 := hp26.2
      have hr01 : r1 = 0 ∨ r1 = 1 := by rcases hp26.1 with h | h; exact Or.inr h.1; exact Or.inl h.1
      refine z_if_eq C 35 dX8_quarrel_29 (by decide) ⟨by omega, by omega⟩ (fun c_29 => ?_) (fun c_29 => ?_)
      · obtain ⟨ρ, hy, hsm, hok⟩ : ∃ ρ : zS, jYes σ ρ ∧ jSame ρ t2 ∧ jOk ρ t2 (σ 100 11) := by rcases hp26.1 with h | h; exact absurd h.1 (by omega); exact h.2
        have hj := jSame_j hsm
        have hjb := jYes_b hse hrd hho hpz hnm hch hy hsm hok
        refine z_aload_n C hl 0 rfl dX8_quarrel_35 ?_
        refine z_aload_n C hl 0 rfl dX8_quarrel_36 ?_
        refine zg_X8_174 C hP dX8_quarrel_37 ?_
        refine z_aload_n C hl 0 rfl dX8_quarrel_40 ?_
        refine zg_X8_113 C hP dX8_quarrel_41 ?_
        rw [show t2 100 5 = σ 100 5 from by rw [ft2 100 5 (by omega) (by omega)]]
        refine z_vSi C hP (As := [.int (iI (t2 100 29)), .int (iI (σ 100 5))]) lk_X8_285 (c_X8_believed hI t2 (t2 100 29) (σ 100 5) hse.1 (by rw [ft2 104 (σ 100 5) (by omega) (by omega)]; exact htk _ hse.1.1 hse.1.2) ⟨by omega, by omega⟩ ⟨by omega, by omega⟩ ⟨by omega, by omega⟩) ob_100 rfl rfl rfl hl.1 rfl (Nat.le_of_ble_eq_true rfl) ⟨Nat.le_of_ble_eq_true rfl, Nat.le_of_ble_eq_true rfl⟩ ⟨Nat.zero_le _, Nat.zero_le _⟩ dX8_quarrel_44 ?_
        rw [ft2 104 (σ 100 5) (by omega) (by omega)]
        have hm1 := mBel_b (both := t2 100 29 + t2 100 30) (treads := t2 100 29) (th := σ 104 (σ 100 5)) (by omega) (by omega) (htk _ hse.1.1 hse.1.2).1
        refine z_aload_n C hl 0 rfl dX8_quarrel_47 ?_
        refine z_aload_n C hl 0 rfl dX8_quarrel_48 ?_
        refine zg_X8_177 C hP dX8_quarrel_49 ?_
        refine z_aload_n C hl 0 rfl dX8_quarrel_52 ?_
        refine zg_X8_68 C hP dX8_quarrel_53 ?_
        rw [show t2 100 6 = σ 100 6 from by rw [ft2 100 6 (by omega) (by omega)]]
        refine z_vSi C hP (As := [.int (iI (t2 100 30)), .int (iI (σ 100 6))]) lk_X8_285 (c_X8_believed hI t2 (t2 100 30) (σ 100 6) hse.2 (by rw [ft2 104 (σ 100 6) (by omega) (by omega)]; exact htk _ hse.2.1 hse.2.2) ⟨by omega, by omega⟩ ⟨by omega, by omega⟩ ⟨by omega, by omega⟩) ob_100 rfl rfl rfl hl.1 rfl (Nat.le_of_ble_eq_true rfl) ⟨Nat.le_of_ble_eq_true rfl, Nat.le_of_ble_eq_true rfl⟩ ⟨Nat.zero_le _, Nat.zero_le _⟩ dX8_quarrel_56 ?_
        rw [ft2 104 (σ 100 6) (by omega) (by omega)]
        have hm2 := mBel_b (both := t2 100 29 + t2 100 30) (treads := t2 100 30) (th := σ 104 (σ 100 6)) (by omega) (by omega) (htk _ hse.2.1 hse.2.2).1
        refine z_iadd C dX8_quarrel_59 ?_
        refine z_bipush C (by decide +kernel) dX8_quarrel_60 ?_
        refine z_isub C dX8_quarrel_62 ?_
        refine z_topi (fun x3 hx3 => ?_)
        refine z_istore_n C [1, 2, 0] [(0, .ref (a 100)), (1, .int (iI n0)), (2, .int (iI x3))] hl (by decide) rfl dX8_quarrel_63 (fun ls hl => ?_)
        have hab : x3 = (mBel (mSum (jTF ρ) (σ 100 11).toNat + mSum (jTB ρ) (σ 100 11).toNat) (mSum (jTF ρ) (σ 100 11).toNat) (σ 104 (σ 100 5)) + mBel (mSum (jTF ρ) (σ 100 11).toNat + mSum (jTB ρ) (σ 100 11).toNat) (mSum (jTB ρ) (σ 100 11).toNat) (σ 104 (σ 100 6)) - 100) := by rw [← hok.2.2.2.2.2.2.1, ← hok.2.2.2.2.2.2.2.1]; omega
        refine z_iconst C dX8_quarrel_64 ?_
        refine z_istore_n C [1, 2, 3, 0] [(0, .ref (a 100)), (1, .int (iI n0)), (2, .int (iI x3)), (3, .int (iI 0))] hl (by decide) rfl dX8_quarrel_65 (fun ls hl => ?_)
        refine z_iconst C dX8_quarrel_66 ?_
        refine z_istore C [1, 2, 3, 4, 0] [(0, .ref (a 100)), (1, .int (iI n0)), (2, .int (iI x3)), (3, .int (iI 0)), (4, .int (iI 0))] hl (by decide) rfl dX8_quarrel_67 (fun ls hl => ?_)
        have L_69 : ∀ (n : Nat) (q : Int) (i : Int) (τ : zS) (H : Heap) (locs : List Loc) (hP : GP D Y a τ H) (hS : va_S (inA a) s.heap H locs) (ls : Array Slot), (t2 = τ) → (0 ≤ i ∧ i ≤ n0) → (q = mQr (max 0 (mBel (mSum (jTF ρ) (σ 100 11).toNat + mSum (jTB ρ) (σ 100 11).toNat) (mSum (jTF ρ) (σ 100 11).toNat) (σ 104 (σ 100 5)) + mBel (mSum (jTF ρ) (σ 100 11).toNat + mSum (jTB ρ) (σ 100 11).toNat) (mSum (jTB ρ) (σ 100 11).toNat) (σ 104 (σ 100 6)) - 100)) (σ 100 9) i.toNat) → (0 ≤ q ∧ q ≤ 999) → ((n0 - i).toNat) < n → lv_has ls 5 [(0, .ref (a 100)), (1, .int (iI n0)), (2, .int (iI x3)), (3, .int (iI q)), (4, .int (iI i))] → W p l e (zR 7) s m ([.ref (a 100), .int (iI n0)] : List Value).toArray below meth c H locs 0 0 (MQ below (zQi D Y a (fun r τ => (¬ (mBit (σ 100 0) (σ 100 5) = 1 ∧ mBit (σ 100 0) (σ 100 6) = 1 ∧ σ 100 5 ≠ σ 100 6) → r = -3) ∧ (mBit (σ 100 0) (σ 100 5) = 1 ∧ mBit (σ 100 0) (σ 100 6) = 1 ∧ σ 100 5 ≠ σ 100 6 → ¬ (0 ≤ n0 ∧ n0 ≤ 99) → r = -2) ∧ (mBit (σ 100 0) (σ 100 5) = 1 ∧ mBit (σ 100 0) (σ 100 6) = 1 ∧ σ 100 5 ≠ σ 100 6 → 0 ≤ n0 ∧ n0 ≤ 99 → (jNo σ ∧ r = -5) ∨ ∃ ρ : zS, jYes σ ρ ∧ r = mQr (max 0 (mBel (mSum (jTF ρ) (σ 100 11).toNat + mSum (jTB ρ) (σ 100 11).toNat) (mSum (jTF ρ) (σ 100 11).toNat) (σ 104 (σ 100 5)) + mBel (mSum (jTF ρ) (σ 100 11).toNat + mSum (jTB ρ) (σ 100 11).toNat) (mSum (jTB ρ) (σ 100 11).toNat) (σ 104 (σ 100 6)) - 100)) (σ 100 9) n0.toNat) ∧ jFr σ τ)) ([.ref (a 100), .int (iI n0)] : List Value).toArray s 0 0 (inA a)) (F0 m 69 ls []) := by
          intro n
          induction n with
          | zero =>
            intros; omega
          | succ n ih_69 =>
            intro q i τ H locs hP hS ls iT ii iq ib hm hl
            subst iT
            refine z_iload C hl 4 rfl dX8_quarrel_69 ?_
            refine z_iload_n C hl 1 rfl dX8_quarrel_71 ?_
            refine z_icmp_ge C 121 dX8_quarrel_72 (by decide) ⟨by omega, by omega⟩ ⟨by omega, by omega⟩ (fun c_72 => ?_) (fun c_72 => ?_)
            · refine z_iload_n C hl 3 rfl dX8_quarrel_121 ?_
              exact z_retQi C hP hS hr hlocks rfl (by exact ⟨fun h => absurd h b_1, fun _ h => (by exfalso; omega), fun _ _ => Or.inr ⟨ρ, hy, (by rw [iq, show i = n0 from (by omega)])⟩, ft2⟩) dX8_quarrel_122
            · refine z_iload_n C hl 3 rfl dX8_quarrel_75 ?_
              refine z_iload_n C hl 2 rfl dX8_quarrel_76 ?_
              refine z_if_le C 84 dX8_quarrel_77 (by decide) ⟨by omega, by omega⟩ (fun c_77 => ?_) (fun c_77 => ?_)
              · refine z_iconst C dX8_quarrel_84 ?_
                refine z_aload_n C hl 0 rfl dX8_quarrel_85 ?_
                refine zg_X8_78 C hP dX8_quarrel_86 ?_
                rw [show t2 100 9 = σ 100 9 from by rw [ft2 100 9 (by omega) (by omega)]]
                refine z_isub C dX8_quarrel_89 ?_
                refine z_iadd C dX8_quarrel_90 ?_
                refine z_topi (fun x4 hx4 => ?_)
                refine z_istore_n C [1, 2, 3, 0, 4] [(0, .ref (a 100)), (1, .int (iI n0)), (2, .int (iI x3)), (3, .int (iI x4)), (4, .int (iI i))] hl (by decide) rfl dX8_quarrel_91 (fun ls hl => ?_)
                refine z_iload_n C hl 3 rfl dX8_quarrel_92 ?_
                refine z_if_ge C 100 dX8_quarrel_93 (by decide) ⟨by omega, by omega⟩ (fun c_93 => ?_) (fun c_93 => ?_)
                · refine z_iload_n C hl 3 rfl dX8_quarrel_100 ?_
                  refine z_sipush C (by decide +kernel) dX8_quarrel_101 ?_
                  refine z_icmp_le C 113 dX8_quarrel_104 (by decide) ⟨by omega, by omega⟩ ⟨by omega, by omega⟩ (fun c_104 => ?_) (fun c_104 => ?_)
                  · refine z_iload_n C hl 3 rfl dX8_quarrel_113 ?_
                    refine z_istore_n C [1, 2, 3, 0, 4] [(0, .ref (a 100)), (1, .int (iI n0)), (2, .int (iI x3)), (3, .int (iI x4)), (4, .int (iI i))] hl (by decide) rfl dX8_quarrel_114 (fun ls hl => ?_)
                    refine z_iinc C 4 [1, 2, 3, 4, 0] [(0, .ref (a 100)), (1, .int (iI n0)), (2, .int (iI x3)), (3, .int (iI x4)), (4, .int (iI (i + 1)))] hl rfl (by decide) rfl dX8_quarrel_115 (fun ls hl => ?_)
                    refine z_goto C 69 dX8_quarrel_118 (by decide) ?_
                    exact ih_69 x4 (i + 1) t2 H locs hP hS ls (by rfl) (by omega) (by rw [mQr_s _ _ ii.1, ← iq, ← hab]; omega) (by omega) (by omega) (lv_sub hl [0, 1, 2, 3, 4] rfl)
                  · refine z_sipush C (by decide +kernel) dX8_quarrel_107 ?_
                    refine z_goto C 114 dX8_quarrel_110 (by decide) ?_
                    refine z_istore_n C [1, 2, 3, 0, 4] [(0, .ref (a 100)), (1, .int (iI n0)), (2, .int (iI x3)), (3, .int (iI 999)), (4, .int (iI i))] hl (by decide) rfl dX8_quarrel_114 (fun ls hl => ?_)
                    refine z_iinc C 4 [1, 2, 3, 4, 0] [(0, .ref (a 100)), (1, .int (iI n0)), (2, .int (iI x3)), (3, .int (iI 999)), (4, .int (iI (i + 1)))] hl rfl (by decide) rfl dX8_quarrel_115 (fun ls hl => ?_)
                    refine z_goto C 69 dX8_quarrel_118 (by decide) ?_
                    exact ih_69 999 (i + 1) t2 H locs hP hS ls (by rfl) (by omega) (by rw [mQr_s _ _ ii.1, ← iq, ← hab]; omega) (by omega) (by omega) (lv_sub hl [0, 1, 2, 3, 4] rfl)
                · refine z_iconst C dX8_quarrel_96 ?_
                  refine z_goto C 114 dX8_quarrel_97 (by decide) ?_
                  refine z_istore_n C [1, 2, 3, 0, 4] [(0, .ref (a 100)), (1, .int (iI n0)), (2, .int (iI x3)), (3, .int (iI 0)), (4, .int (iI i))] hl (by decide) rfl dX8_quarrel_114 (fun ls hl => ?_)
                  refine z_iinc C 4 [1, 2, 3, 4, 0] [(0, .ref (a 100)), (1, .int (iI n0)), (2, .int (iI x3)), (3, .int (iI 0)), (4, .int (iI (i + 1)))] hl rfl (by decide) rfl dX8_quarrel_115 (fun ls hl => ?_)
                  refine z_goto C 69 dX8_quarrel_118 (by decide) ?_
                  exact ih_69 0 (i + 1) t2 H locs hP hS ls (by rfl) (by omega) (by rw [mQr_s _ _ ii.1, ← iq, ← hab]; omega) (by omega) (by omega) (lv_sub hl [0, 1, 2, 3, 4] rfl)
              · refine z_iload_n C hl 2 rfl dX8_quarrel_80 ?_
                refine z_goto C 85 dX8_quarrel_81 (by decide) ?_
                refine z_aload_n C hl 0 rfl dX8_quarrel_85 ?_
                refine zg_X8_78 C hP dX8_quarrel_86 ?_
                rw [show t2 100 9 = σ 100 9 from by rw [ft2 100 9 (by omega) (by omega)]]
                refine z_isub C dX8_quarrel_89 ?_
                refine z_iadd C dX8_quarrel_90 ?_
                refine z_topi (fun x5 hx5 => ?_)
                refine z_istore_n C [1, 2, 3, 0, 4] [(0, .ref (a 100)), (1, .int (iI n0)), (2, .int (iI x3)), (3, .int (iI x5)), (4, .int (iI i))] hl (by decide) rfl dX8_quarrel_91 (fun ls hl => ?_)
                refine z_iload_n C hl 3 rfl dX8_quarrel_92 ?_
                refine z_if_ge C 100 dX8_quarrel_93 (by decide) ⟨by omega, by omega⟩ (fun c_93 => ?_) (fun c_93 => ?_)
                · refine z_iload_n C hl 3 rfl dX8_quarrel_100 ?_
                  refine z_sipush C (by decide +kernel) dX8_quarrel_101 ?_
                  refine z_icmp_le C 113 dX8_quarrel_104 (by decide) ⟨by omega, by omega⟩ ⟨by omega, by omega⟩ (fun c_104 => ?_) (fun c_104 => ?_)
                  · refine z_iload_n C hl 3 rfl dX8_quarrel_113 ?_
                    refine z_istore_n C [1, 2, 3, 0, 4] [(0, .ref (a 100)), (1, .int (iI n0)), (2, .int (iI x3)), (3, .int (iI x5)), (4, .int (iI i))] hl (by decide) rfl dX8_quarrel_114 (fun ls hl => ?_)
                    refine z_iinc C 4 [1, 2, 3, 4, 0] [(0, .ref (a 100)), (1, .int (iI n0)), (2, .int (iI x3)), (3, .int (iI x5)), (4, .int (iI (i + 1)))] hl rfl (by decide) rfl dX8_quarrel_115 (fun ls hl => ?_)
                    refine z_goto C 69 dX8_quarrel_118 (by decide) ?_
                    exact ih_69 x5 (i + 1) t2 H locs hP hS ls (by rfl) (by omega) (by rw [mQr_s _ _ ii.1, ← iq, ← hab]; omega) (by omega) (by omega) (lv_sub hl [0, 1, 2, 3, 4] rfl)
                  · refine z_sipush C (by decide +kernel) dX8_quarrel_107 ?_
                    refine z_goto C 114 dX8_quarrel_110 (by decide) ?_
                    refine z_istore_n C [1, 2, 3, 0, 4] [(0, .ref (a 100)), (1, .int (iI n0)), (2, .int (iI x3)), (3, .int (iI 999)), (4, .int (iI i))] hl (by decide) rfl dX8_quarrel_114 (fun ls hl => ?_)
                    refine z_iinc C 4 [1, 2, 3, 4, 0] [(0, .ref (a 100)), (1, .int (iI n0)), (2, .int (iI x3)), (3, .int (iI 999)), (4, .int (iI (i + 1)))] hl rfl (by decide) rfl dX8_quarrel_115 (fun ls hl => ?_)
                    refine z_goto C 69 dX8_quarrel_118 (by decide) ?_
                    exact ih_69 999 (i + 1) t2 H locs hP hS ls (by rfl) (by omega) (by rw [mQr_s _ _ ii.1, ← iq, ← hab]; omega) (by omega) (by omega) (lv_sub hl [0, 1, 2, 3, 4] rfl)
                · refine z_iconst C dX8_quarrel_96 ?_
                  refine z_goto C 114 dX8_quarrel_97 (by decide) ?_
                  refine z_istore_n C [1, 2, 3, 0, 4] [(0, .ref (a 100)), (1, .int (iI n0)), (2, .int (iI x3)), (3, .int (iI 0)), (4, .int (iI i))] hl (by decide) rfl dX8_quarrel_114 (fun ls hl => ?_)
                  refine z_iinc C 4 [1, 2, 3, 4, 0] [(0, .ref (a 100)), (1, .int (iI n0)), (2, .int (iI x3)), (3, .int (iI 0)), (4, .int (iI (i + 1)))] hl rfl (by decide) rfl dX8_quarrel_115 (fun ls hl => ?_)
                  refine z_goto C 69 dX8_quarrel_118 (by decide) ?_
                  exact ih_69 0 (i + 1) t2 H locs hP hS ls (by rfl) (by omega) (by rw [mQr_s _ _ ii.1, ← iq, ← hab]; omega) (by omega) (by omega) (lv_sub hl [0, 1, 2, 3, 4] rfl)
        exact L_69 _ 0 0 t2 _ _ hP hS ls (by rfl) (by omega) (by rfl) (by omega) (Nat.lt_succ_self _) (lv_sub hl [0, 1, 2, 3, 4] rfl)
      · refine z_bipush C (by decide +kernel) dX8_quarrel_32 ?_
        exact z_retQi C hP hS hr hlocks rfl (by exact ⟨fun h => absurd h b_1, fun _ h => (by exfalso; omega), fun _ _ => Or.inl ⟨(by rcases hp26.1 with h | h; exact h.2; exact absurd h.1 (by omega)), rfl⟩, ft2⟩) dX8_quarrel_34
    · rw [show (if 0 ≤ n0 ∧ n0 ≤ 99 then (1 : Int) else 0) = 0 from if_neg b_16]
      refine z_ifF_ne C 25 dX8_quarrel_19 (by decide) ⟨by decide, by decide⟩ (by decide) ?_
      refine z_bipush C (by decide +kernel) dX8_quarrel_22 ?_
      exact z_retQi C hP hS hr hlocks rfl (by exact ⟨fun h => absurd h b_1, fun _ _ => rfl, fun _ h => (by exfalso; omega), jFr_0 _⟩) dX8_quarrel_24

def jCn (σ : zS) : Int := mSum (fun i => if σ 105 i = 99 then 1 else 0) (σ 100 11).toNat
theorem jCn_c {σ τ : zS} (h : jFr σ τ) : jCn τ = jCn σ := by
  unfold jCn
  rw [h 100 11 (by omega) (by omega), show τ 105 = σ 105 from funext fun j => h 105 j (by omega) (by omega)]
theorem jCn_b {σ : zS} (hnm : 1 ≤ σ 100 11 ∧ σ 100 11 ≤ 24) : 0 ≤ jCn σ ∧ jCn σ ≤ 24 := by
  have h := mCnt_b (fun i => σ 105 i = 99) (σ 100 11).toNat
  unfold jCn
  omega
set_option maxRecDepth 20000 in
set_option maxHeartbeats 4000000 in
theorem c_X8_corners {l : Launch} {D : va_G} {Y : Nat → ClassId} {a : Int → Nat} (hI : zI a) (σ : zS)  (hnm : 1 ≤ σ 100 11 ∧ σ 100 11 ≤ 24) (hch : ∀ i : Int, 0 ≤ i → i < 24 → 0 ≤ σ 105 i ∧ σ 105 i ≤ 200) : zMet l yX8_corners cX8_corners 3 (some .int) 0 (zPc D Y a σ [.ref (a 100)]) (zSi (jCn σ)) zNo := by
  refine z_start rfl (Nat.le_of_ble_eq_true rfl) hI ?_
  intro p e s m below meth c ls C hr hlocks hl hP
  have hl : lv_has ls 3 [(0, .ref (a 100))] := hl
  refine z_iconst C dX8_corners_0 ?_
  refine z_istore_n C [1, 0] [(0, .ref (a 100)), (1, .int (iI 0))] hl (by decide) rfl dX8_corners_1 (fun ls hl => ?_)
  refine z_iconst C dX8_corners_2 ?_
  refine z_istore_n C [1, 2, 0] [(0, .ref (a 100)), (1, .int (iI 0)), (2, .int (iI 0))] hl (by decide) rfl dX8_corners_3 (fun ls hl => ?_)
  have L_4 : ∀ (n : Nat) (ct : Int) (i : Int) (ls : Array Slot), (0 ≤ i ∧ i ≤ σ 100 11) → (ct = mSum (fun i => if σ 105 i = 99 then 1 else 0) i.toNat) → (0 ≤ ct ∧ ct ≤ i) → ((σ 100 11 - i).toNat) < n → lv_has ls 3 [(0, .ref (a 100)), (1, .int (iI ct)), (2, .int (iI i))] → W p l e (zR 0) s m ([.ref (a 100)] : List Value).toArray below meth c s.heap [] 0 0 (MQ below (zSi (jCn σ)) ([.ref (a 100)] : List Value).toArray s 0 0 zNo) (F0 m 4 ls []) := by
    intro n
    induction n with
    | zero =>
      intros; omega
    | succ n ih_4 =>
      intro ct i ls ii iv ib hm hl
      refine z_iload_n C hl 2 rfl dX8_corners_4 ?_
      refine z_aload_n C hl 0 rfl dX8_corners_5 ?_
      refine zg_X8_81 C hP dX8_corners_6 ?_
      refine z_icmp_ge C 37 dX8_corners_9 (by decide) ⟨by omega, by omega⟩ ⟨by omega, by omega⟩ (fun c_9 => ?_) (fun c_9 => ?_)
      · refine z_iload_n C hl 1 rfl dX8_corners_37 ?_
        exact z_retSi C hr hlocks rfl (by unfold jCn; rw [iv, show i = σ 100 11 from (by omega)]) dX8_corners_38
      · have hci := hch i (by omega) (by omega)
        refine z_iload_n C hl 1 rfl dX8_corners_12 ?_
        refine z_aload_n C hl 0 rfl dX8_corners_13 ?_
        refine zg_X8_22 C hP dX8_corners_14 ?_
        refine z_iload_n C hl 2 rfl dX8_corners_17 ?_
        refine z_iald C hP ia_105 ⟨by omega, by omega⟩ dX8_corners_18 ?_
        refine z_bipush C (by decide +kernel) dX8_corners_19 ?_
        refine z_icmp_ne C 28 dX8_corners_21 (by decide) ⟨by omega, by omega⟩ ⟨by omega, by omega⟩ (fun c_21 => ?_) (fun c_21 => ?_)
        · refine z_iconst C dX8_corners_28 ?_
          refine z_iadd C dX8_corners_29 ?_
          refine z_topi (fun x1 hx1 => ?_)
          refine z_istore_n C [1, 0, 2] [(0, .ref (a 100)), (1, .int (iI x1)), (2, .int (iI i))] hl (by decide) rfl dX8_corners_30 (fun ls hl => ?_)
          refine z_iinc C 2 [1, 2, 0] [(0, .ref (a 100)), (1, .int (iI x1)), (2, .int (iI (i + 1)))] hl rfl (by decide) rfl dX8_corners_31 (fun ls hl => ?_)
          refine z_goto C 4 dX8_corners_34 (by decide) ?_
          exact ih_4 x1 (i + 1) ls (by omega) (by rw [mSum_s _ ii.1, ← iv]; show _ = ct + (if σ 105 i = 99 then (1 : Int) else 0); first | (rw [if_pos (by omega)]; first | done | omega) | (rw [if_neg (by omega)]; first | done | omega)) (by omega) (by omega) (lv_sub hl [0, 1, 2] rfl)
        · refine z_iconst C dX8_corners_24 ?_
          refine z_goto C 29 dX8_corners_25 (by decide) ?_
          refine z_iadd C dX8_corners_29 ?_
          refine z_topi (fun x2 hx2 => ?_)
          refine z_istore_n C [1, 0, 2] [(0, .ref (a 100)), (1, .int (iI x2)), (2, .int (iI i))] hl (by decide) rfl dX8_corners_30 (fun ls hl => ?_)
          refine z_iinc C 2 [1, 2, 0] [(0, .ref (a 100)), (1, .int (iI x2)), (2, .int (iI (i + 1)))] hl rfl (by decide) rfl dX8_corners_31 (fun ls hl => ?_)
          refine z_goto C 4 dX8_corners_34 (by decide) ?_
          exact ih_4 x2 (i + 1) ls (by omega) (by rw [mSum_s _ ii.1, ← iv]; show _ = ct + (if σ 105 i = 99 then (1 : Int) else 0); first | (rw [if_pos (by omega)]; first | done | omega) | (rw [if_neg (by omega)]; first | done | omega)) (by omega) (by omega) (lv_sub hl [0, 1, 2] rfl)
  exact L_4 _ 0 0 ls (by omega) (by rfl) (by omega) (Nat.lt_succ_self _) (lv_sub hl [0, 1, 2] rfl)

set_option maxRecDepth 20000 in
set_option maxHeartbeats 4000000 in
theorem c_X8_powers {l : Launch} {D : va_G} {Y : Nat → ClassId} {a : Int → Nat} (hI : zI a) (σ : zS) (v n0 : Int) (hv : 0 ≤ v ∧ v ≤ 10) (hn0 : -100 ≤ n0 ∧ n0 ≤ 100) : zMet l yX8_powers cX8_powers 5 (some .long) 0 (zPc D Y a σ [.int (iI v), .int (iI n0)]) (zSl (v ^ n0.toNat)) zNo := by
  refine z_start rfl (Nat.le_of_ble_eq_true rfl) hI ?_
  intro p e s m below meth c ls C hr hlocks hl hP
  have hl : lv_has ls 5 [(0, .int (iI v)), (1, .int (iI n0))] := hl
  refine z_lconst C (z := 1) rfl dX8_powers_0 ?_
  refine z_lstore_n C [1, 2, 0] [(0, .int (iI v)), (1, .int (iI n0)), (2, .long (jI 1))] hl (by decide) rfl dX8_powers_1 (fun ls hl => ?_)
  refine z_iconst C dX8_powers_2 ?_
  refine z_istore C [1, 2, 3, 0] [(0, .int (iI v)), (1, .int (iI n0)), (2, .long (jI 1)), (4, .int (iI 0))] hl (by decide) rfl dX8_powers_3 (fun ls hl => ?_)
  have L_5 : ∀ (n : Nat) (pw : Int) (i : Int) (ls : Array Slot), (0 ≤ i ∧ (i ≤ n0 ∨ i = 0)) → (pw = v ^ i.toNat) → ((n0 - i).toNat) < n → lv_has ls 5 [(0, .int (iI v)), (1, .int (iI n0)), (2, .long (jI pw)), (4, .int (iI i))] → W p l e (zR 0) s m ([.int (iI v), .int (iI n0)] : List Value).toArray below meth c s.heap [] 0 0 (MQ below (zSl (v ^ n0.toNat)) ([.int (iI v), .int (iI n0)] : List Value).toArray s 0 0 zNo) (F0 m 5 ls []) := by
    intro n
    induction n with
    | zero =>
      intros; omega
    | succ n ih_5 =>
      intro pw i ls ii iv hm hl
      refine z_iload C hl 3 rfl dX8_powers_5 ?_
      refine z_iload_n C hl 1 rfl dX8_powers_7 ?_
      refine z_icmp_ge C 22 dX8_powers_8 (by decide) ⟨by omega, by omega⟩ ⟨by omega, by omega⟩ (fun c_8 => ?_) (fun c_8 => ?_)
      · refine z_lload_n C hl 2 rfl dX8_powers_22 ?_
        exact z_retSl C hr hlocks (by rw [iv, show n0.toNat = i.toNat from (by omega)]) dX8_powers_23
      · refine z_lload_n C hl 2 rfl dX8_powers_11 ?_
        refine z_iload_n C hl 0 rfl dX8_powers_12 ?_
        refine z_i2l C ⟨by omega, by omega⟩ dX8_powers_13 ?_
        refine z_lmul C dX8_powers_14 ?_
        refine z_topl (fun x1 hx1 => ?_)
        refine z_lstore_n C [1, 2, 0, 3] [(0, .int (iI v)), (1, .int (iI n0)), (2, .long (jI x1)), (4, .int (iI i))] hl (by decide) rfl dX8_powers_15 (fun ls hl => ?_)
        refine z_iinc C 3 [1, 2, 3, 0] [(0, .int (iI v)), (1, .int (iI n0)), (2, .long (jI x1)), (4, .int (iI (i + 1)))] hl rfl (by decide) rfl dX8_powers_16 (fun ls hl => ?_)
        refine z_goto C 5 dX8_powers_19 (by decide) ?_
        exact ih_5 x1 (i + 1) ls (by omega) (by subst_vars; rw [show (i + 1).toNat = i.toNat + 1 from (by omega), Int.pow_succ]) (by omega) (lv_sub hl [0, 1, 2, 3] rfl)
  exact L_5 _ 1 0 ls (by omega) (by simp) (Nat.lt_succ_self _) (lv_sub hl [0, 1, 2, 3] rfl)

def jHF (S t n sec sb : Int) : Int := if S + 5 * mPop sb ≤ sec then t ^ (mPop sb).toNat * (10 - t) ^ (n - mPop sb).toNat else 0
theorem jHF_t {t n p : Int} (ht : 0 ≤ t ∧ t ≤ 10) (hn : 0 ≤ n ∧ n ≤ 12) (hp : 0 ≤ p ∧ p ≤ 12) : 0 ≤ t ^ p.toNat * (10 - t) ^ (n - p).toNat ∧ t ^ p.toNat * (10 - t) ^ (n - p).toNat ≤ 1000000000000 := by
  have h1 := mPow_b ht p.toNat
  have h2 := mPow_b (t := 10 - t) (by omega) (n - p).toNat
  have h3 := mulb h1 h2
  rw [← Int.pow_add] at h3
  have h4 := mP10 (p.toNat + (n - p).toNat) (by omega)
  omega
theorem jHF_b {S t n sec : Int} (ht : 0 ≤ t ∧ t ≤ 10) (hn : 0 ≤ n ∧ n ≤ 12) (sb : Int) : 0 ≤ jHF S t n sec sb ∧ jHF S t n sec sb ≤ 1000000000000 := by
  have := jHF_t ht hn (@mPop_b sb)
  unfold jHF
  split <;> omega
set_option maxRecDepth 20000 in
set_option maxHeartbeats 4000000 in
theorem c_X8_home {l : Launch} {D : va_G} {Y : Nat → ClassId} {a : Int → Nat} (hI : zI a) (σ : zS) (t0 sec pt : Int) (r1 : R3 t0) (r2 : R3 sec) (r3 : R3 pt) (hrb : 0 ≤ σ 100 0 ∧ σ 100 0 ≤ 15) (hse : (0 ≤ σ 100 5 ∧ σ 100 5 ≤ 3) ∧ (0 ≤ σ 100 6 ∧ σ 100 6 ≤ 3)) (hnm : 1 ≤ σ 100 11 ∧ σ 100 11 ≤ 24) (hpm : 0 ≤ σ 100 18 ∧ σ 100 18 ≤ 110) (hpq : ∀ i : Int, 0 ≤ i → i < 110 → 0 ≤ σ 110 i ∧ σ 110 i ≤ 126) (hrd : ∀ r : Int, 0 ≤ r → r ≤ 3 → (0 ≤ σ 101 r ∧ σ 101 r ≤ 20) ∧ (0 ≤ σ 102 r ∧ σ 102 r ≤ 10) ∧ (0 ≤ σ 103 r ∧ σ 103 r ≤ 9)) (hho : 5 ≤ σ 100 7 ∧ σ 100 7 ≤ 20) (hpz : 0 ≤ σ 100 8 ∧ σ 100 8 ≤ 99) (hch : ∀ i : Int, 0 ≤ i → i < 24 → 0 ≤ σ 105 i ∧ σ 105 i ≤ 200) : zMet l yX8_home cX8_home 9 (some .long) 7 (zPc D Y a σ [.ref (a 100), .int (iI t0), .int (iI sec), .int (iI pt)]) (zQl D Y a (fun r τ => (¬ (mBit (σ 100 0) (σ 100 5) = 1 ∧ mBit (σ 100 0) (σ 100 6) = 1 ∧ σ 100 5 ≠ σ 100 6) → r = (-1000000000000000003)) ∧ (mBit (σ 100 0) (σ 100 5) = 1 ∧ mBit (σ 100 0) (σ 100 6) = 1 ∧ σ 100 5 ≠ σ 100 6 → ¬ ((0 ≤ t0 ∧ t0 ≤ 10) ∧ (0 ≤ sec ∧ sec ≤ 9999) ∧ 0 ≤ pt ∧ pt ≤ 1) → r = (-1000000000000000002)) ∧ (mBit (σ 100 0) (σ 100 5) = 1 ∧ mBit (σ 100 0) (σ 100 6) = 1 ∧ σ 100 5 ≠ σ 100 6 → (0 ≤ t0 ∧ t0 ≤ 10) ∧ (0 ≤ sec ∧ sec ≤ 9999) ∧ 0 ≤ pt ∧ pt ≤ 1 → (jNo σ ∧ r = (-1000000000000000005)) ∨ ∃ ρ : zS, jYes σ ρ ∧ r = if 12 < jCn σ then (-1000000000000000004) else mFrac (mSum (jHF (jS ρ (σ 100 11).toNat) t0 (jCn σ) sec) ((2 : Int) ^ (jCn σ).toNat).toNat) (10 ^ (jCn σ).toNat) pt) ∧ jFr σ τ)) (inA a) := by
  refine z_start rfl (Nat.le_of_ble_eq_true rfl) hI ?_
  intro p e s m below meth c ls C hr hlocks hl hP
  have hS : va_S (inA a) s.heap s.heap [] := va_S.rf
  have hl : lv_has ls 9 [(0, .ref (a 100)), (1, .int (iI t0)), (2, .int (iI sec)), (3, .int (iI pt))] := hl
  skip
  refine z_aload_n C hl 0 rfl dX8_home_0 ?_
  refine z_vSi C hP (As := []) lk_X8_206 (c_X8_isNobody hI σ  hrb hse) ob_100 rfl rfl rfl hl.1 rfl (Nat.le_of_ble_eq_true rfl) ⟨Nat.le_of_ble_eq_true rfl, Nat.le_of_ble_eq_true rfl⟩ ⟨Nat.zero_le _, Nat.zero_le _⟩ dX8_home_1 ?_
  by_cases b_1 : ¬ (mBit (σ 100 0) (σ 100 5) = 1 ∧ mBit (σ 100 0) (σ 100 6) = 1 ∧ σ 100 5 ≠ σ 100 6)
  · rw [show (if ¬ (mBit (σ 100 0) (σ 100 5) = 1 ∧ mBit (σ 100 0) (σ 100 6) = 1 ∧ σ 100 5 ≠ σ 100 6) then (1 : Int) else 0) = 1 from if_pos b_1]
    refine z_ifF_eq C 11 dX8_home_4 (by decide) ⟨by decide, by decide⟩ (by decide) ?_
    refine z_ldc2 C (z := (-1000000000000000003)) wd_473 (by decide +kernel) dX8_home_7 ?_
    exact z_retQl C hP hS hr hlocks (by exact ⟨fun _ => rfl, fun h => absurd h b_1, fun h => absurd h b_1, jFr_0 _⟩) dX8_home_10
  · rw [show (if ¬ (mBit (σ 100 0) (σ 100 5) = 1 ∧ mBit (σ 100 0) (σ 100 6) = 1 ∧ σ 100 5 ≠ σ 100 6) then (1 : Int) else 0) = 0 from if_neg b_1]
    refine z_ifT_eq C 11 dX8_home_4 (by decide) ⟨by decide, by decide⟩ (by decide) ?_
    refine z_iload_n C hl 1 rfl dX8_home_11 ?_
    refine z_i2l C ⟨by omega, by omega⟩ dX8_home_12 ?_
    refine z_lconst C (z := 0) rfl dX8_home_13 ?_
    refine z_ldc2 C (z := 10) wd_170 (by decide +kernel) dX8_home_14 ?_
    refine z_sSi C hP (As := [.long (jI t0), .long (jI 0), .long (jI 10)]) lk_X8_86 (c_X8_in hI σ t0 0 10 ⟨by omega, by omega⟩ ⟨by omega, by omega⟩ ⟨by omega, by omega⟩) rfl hl.1 rfl (Nat.le_of_ble_eq_true rfl) ⟨Nat.le_of_ble_eq_true rfl, Nat.le_of_ble_eq_true rfl⟩ ⟨Nat.zero_le _, Nat.zero_le _⟩ dX8_home_17 ?_
    by_cases b_17 : 0 ≤ t0 ∧ t0 ≤ 10
    · rw [show (if 0 ≤ t0 ∧ t0 ≤ 10 then (1 : Int) else 0) = 1 from if_pos b_17]
      refine z_ifF_eq C 45 dX8_home_20 (by decide) ⟨by decide, by decide⟩ (by decide) ?_
      refine z_iload_n C hl 2 rfl dX8_home_23 ?_
      refine z_i2l C ⟨by omega, by omega⟩ dX8_home_24 ?_
      refine z_lconst C (z := 0) rfl dX8_home_25 ?_
      refine z_ldc2 C (z := 9999) wd_779 (by decide +kernel) dX8_home_26 ?_
      refine z_sSi C hP (As := [.long (jI sec), .long (jI 0), .long (jI 9999)]) lk_X8_86 (c_X8_in hI σ sec 0 9999 ⟨by omega, by omega⟩ ⟨by omega, by omega⟩ ⟨by omega, by omega⟩) rfl hl.1 rfl (Nat.le_of_ble_eq_true rfl) ⟨Nat.le_of_ble_eq_true rfl, Nat.le_of_ble_eq_true rfl⟩ ⟨Nat.zero_le _, Nat.zero_le _⟩ dX8_home_29 ?_
      by_cases b_29 : 0 ≤ sec ∧ sec ≤ 9999
      · rw [show (if 0 ≤ sec ∧ sec ≤ 9999 then (1 : Int) else 0) = 1 from if_pos b_29]
        refine z_ifF_eq C 45 dX8_home_32 (by decide) ⟨by decide, by decide⟩ (by decide) ?_
        refine z_iload_n C hl 3 rfl dX8_home_35 ?_
        refine z_i2l C ⟨by omega, by omega⟩ dX8_home_36 ?_
        refine z_lconst C (z := 0) rfl dX8_home_37 ?_
        refine z_lconst C (z := 1) rfl dX8_home_38 ?_
        refine z_sSi C hP (As := [.long (jI pt), .long (jI 0), .long (jI 1)]) lk_X8_86 (c_X8_in hI σ pt 0 1 ⟨by omega, by omega⟩ ⟨by omega, by omega⟩ ⟨by omega, by omega⟩) rfl hl.1 rfl (Nat.le_of_ble_eq_true rfl) ⟨Nat.le_of_ble_eq_true rfl, Nat.le_of_ble_eq_true rfl⟩ ⟨Nat.zero_le _, Nat.zero_le _⟩ dX8_home_39 ?_
        by_cases b_39 : 0 ≤ pt ∧ pt ≤ 1
        · rw [show (if 0 ≤ pt ∧ pt ≤ 1 then (1 : Int) else 0) = 1 from if_pos b_39]
          refine z_ifT_ne C 49 dX8_home_42 (by decide) ⟨by decide, by decide⟩ (by decide) ?_
          refine z_aload_n C hl 0 rfl dX8_home_49 ?_
          refine z_vQi hS C hP (As := []) lk_X8_215 (c_X8_isRefused hI σ  hrb hse hnm hpm hpq hrd hho hpz hch) ob_100 rfl rfl rfl hl.1 rfl (Nat.le_of_ble_eq_true rfl) ⟨Nat.le_of_ble_eq_true rfl, Nat.le_of_ble_eq_true rfl⟩ ⟨Nat.zero_le _, Nat.zero_le _⟩ dX8_home_50 (fun r1 t2 H locs hp50 hP hS => ?_)
          have ft2 : jFr σ t2 := hp50.2
          have hr01 : r1 = 0 ∨ r1 = 1 := by rcases hp50.1 with h | h; exact Or.inr h.1; exact Or.inl h.1
          refine z_if_eq C 60 dX8_home_53 (by decide) ⟨by omega, by omega⟩ (fun c_53 => ?_) (fun c_53 => ?_)
          · obtain ⟨ρ, hy, hsm, hok⟩ : ∃ ρ : zS, jYes σ ρ ∧ jSame ρ t2 ∧ jOk ρ t2 (σ 100 11) := by rcases hp50.1 with h | h; exact absurd h.1 (by omega); exact h.2
            have hj := jSame_j hsm
            have hjb := jYes_b hse hrd hho hpz hnm hch hy hsm hok
            refine z_aload_n C hl 0 rfl dX8_home_60 ?_
            refine z_vSi C hP (As := []) lk_X8_290 (c_X8_corners hI t2  (by rw [ft2 100 11 (by omega) (by omega)]; exact hnm) (fun i h1 h2 => by rw [ft2 105 i (by omega) (by omega)]; exact hch i h1 h2)) ob_100 rfl rfl rfl hl.1 rfl (Nat.le_of_ble_eq_true rfl) ⟨Nat.le_of_ble_eq_true rfl, Nat.le_of_ble_eq_true rfl⟩ ⟨Nat.zero_le _, Nat.zero_le _⟩ dX8_home_61 ?_
            rw [jCn_c ft2]
            have hcn := jCn_b hnm
            refine z_topi (fun x3 hx3 => ?_)
            refine z_istore C [1, 2, 3, 4, 0] [(0, .ref (a 100)), (1, .int (iI t0)), (2, .int (iI sec)), (3, .int (iI pt)), (4, .int (iI x3))] hl (by decide) rfl dX8_home_64 (fun ls hl => ?_)
            refine z_iload C hl 4 rfl dX8_home_66 ?_
            refine z_bipush C (by decide +kernel) dX8_home_68 ?_
            refine z_icmp_le C 77 dX8_home_70 (by decide) ⟨by omega, by omega⟩ ⟨by omega, by omega⟩ (fun c_70 => ?_) (fun c_70 => ?_)
            · have hp2 := p12 x3.toNat (by omega)
              have h4n : x3 = jCn σ := by omega
              refine z_lconst C (z := 0) rfl dX8_home_77 ?_
              refine z_lstore C [1, 2, 3, 4, 5, 0] [(0, .ref (a 100)), (1, .int (iI t0)), (2, .int (iI sec)), (3, .int (iI pt)), (4, .int (iI x3)), (5, .long (jI 0))] hl (by decide) rfl dX8_home_78 (fun ls hl => ?_)
              refine z_iconst C dX8_home_80 ?_
              refine z_istore C [1, 2, 3, 4, 5, 6, 0] [(0, .ref (a 100)), (1, .int (iI t0)), (2, .int (iI sec)), (3, .int (iI pt)), (4, .int (iI x3)), (5, .long (jI 0)), (7, .int (iI 0))] hl (by decide) rfl dX8_home_81 (fun ls hl => ?_)
              have L_83 : ∀ (n : Nat) (sm : Int) (sb : Int) (τ : zS) (H : Heap) (locs : List Loc) (hP : GP D Y a τ H) (hS : va_S (inA a) s.heap H locs) (ls : Array Slot), (t2 = τ) → (0 ≤ sb ∧ sb ≤ 2 ^ x3.toNat) → (sm = mSum (jHF (jS ρ (σ 100 11).toNat) t0 (jCn σ) sec) sb.toNat) → ((4096 - sb).toNat) < n → lv_has ls 9 [(0, .ref (a 100)), (1, .int (iI t0)), (2, .int (iI sec)), (3, .int (iI pt)), (4, .int (iI x3)), (5, .long (jI sm)), (7, .int (iI sb))] → W p l e (zR 7) s m ([.ref (a 100), .int (iI t0), .int (iI sec), .int (iI pt)] : List Value).toArray below meth c H locs 0 0 (MQ below (zQl D Y a (fun r τ => (¬ (mBit (σ 100 0) (σ 100 5) = 1 ∧ mBit (σ 100 0) (σ 100 6) = 1 ∧ σ 100 5 ≠ σ 100 6) → r = (-1000000000000000003)) ∧ (mBit (σ 100 0) (σ 100 5) = 1 ∧ mBit (σ 100 0) (σ 100 6) = 1 ∧ σ 100 5 ≠ σ 100 6 → ¬ ((0 ≤ t0 ∧ t0 ≤ 10) ∧ (0 ≤ sec ∧ sec ≤ 9999) ∧ 0 ≤ pt ∧ pt ≤ 1) → r = (-1000000000000000002)) ∧ (mBit (σ 100 0) (σ 100 5) = 1 ∧ mBit (σ 100 0) (σ 100 6) = 1 ∧ σ 100 5 ≠ σ 100 6 → (0 ≤ t0 ∧ t0 ≤ 10) ∧ (0 ≤ sec ∧ sec ≤ 9999) ∧ 0 ≤ pt ∧ pt ≤ 1 → (jNo σ ∧ r = (-1000000000000000005)) ∨ ∃ ρ : zS, jYes σ ρ ∧ r = if 12 < jCn σ then (-1000000000000000004) else mFrac (mSum (jHF (jS ρ (σ 100 11).toNat) t0 (jCn σ) sec) ((2 : Int) ^ (jCn σ).toNat).toNat) (10 ^ (jCn σ).toNat) pt) ∧ jFr σ τ)) ([.ref (a 100), .int (iI t0), .int (iI sec), .int (iI pt)] : List Value).toArray s 0 0 (inA a)) (F0 m 83 ls []) := by
                intro n
                induction n with
                | zero =>
                  intros; omega
                | succ n ih_83 =>
                  intro sm sb τ H locs hP hS ls iT ii iv hm hl
                  subst iT
                  refine z_iload C hl 6 rfl dX8_home_83 ?_
                  refine z_iconst C dX8_home_85 ?_
                  refine z_iload C hl 4 rfl dX8_home_86 ?_
                  refine z_ishl C (2 ^ x3.toNat) (z_shl1 ⟨by omega, by omega⟩) dX8_home_88 ?_
                  refine z_icmp_ge C 146 dX8_home_89 (by decide) ⟨by omega, by omega⟩ ⟨by omega, by omega⟩ (fun c_89 => ?_) (fun c_89 => ?_)
                  · have hsu := mSum_b (f := jHF (jS ρ (σ 100 11).toNat) t0 (jCn σ) sec) (A := 1000000000000) (n := sb.toNat) (fun i _ _ => jHF_b (by omega) (by omega) i)
                    refine z_lload C hl 5 rfl dX8_home_146 ?_
                    refine z_bipush C (by decide +kernel) dX8_home_148 ?_
                    refine z_iload C hl 4 rfl dX8_home_150 ?_
                    refine z_sSl C hP (As := [.int (iI 10), .int (iI x3)]) lk_X8_295 (c_X8_powers hI t2 10 x3 ⟨by decide, by decide⟩ ⟨by omega, by omega⟩) rfl hl.1 rfl (Nat.le_of_ble_eq_true rfl) ⟨Nat.le_of_ble_eq_true rfl, Nat.le_of_ble_eq_true rfl⟩ ⟨Nat.zero_le _, Nat.zero_le _⟩ dX8_home_152 ?_
                    have hp10 := mP10 x3.toNat (by omega)
                    refine z_iload_n C hl 3 rfl dX8_home_155 ?_
                    refine z_sSl C hP (As := [.long (jI sm), .long (jI (10 ^ x3.toNat)), .int (iI pt)]) lk_X8_224 (c_X8_lowest hI t2 sm (10 ^ x3.toNat) pt ⟨by omega, by omega⟩ ⟨by omega, by omega⟩ ⟨by omega, by omega⟩) rfl hl.1 rfl (Nat.le_of_ble_eq_true rfl) ⟨Nat.le_of_ble_eq_true rfl, Nat.le_of_ble_eq_true rfl⟩ ⟨Nat.zero_le _, Nat.zero_le _⟩ dX8_home_156 ?_
                    exact z_retQl C hP hS hr hlocks (by exact ⟨fun h => absurd h b_1, fun _ h => (by exfalso; omega), fun _ _ => Or.inr ⟨ρ, hy, (by rw [if_neg (by omega), ← h4n, show ((2 : Int) ^ x3.toNat).toNat = sb.toNat from (by omega), h4n, ← iv])⟩, ft2⟩) dX8_home_159
                  · refine z_iload C hl 6 rfl dX8_home_92 ?_
                    refine z_sSi C hP (As := [.int (iI sb)]) lk_X8_106 (c_X8_ones hI t2 sb ⟨by omega, by omega⟩) rfl hl.1 rfl (Nat.le_of_ble_eq_true rfl) ⟨Nat.le_of_ble_eq_true rfl, Nat.le_of_ble_eq_true rfl⟩ ⟨Nat.zero_le _, Nat.zero_le _⟩ dX8_home_94 ?_
                    have hpo := @mPop_b sb
                    refine z_topi (fun x4 hx4 => ?_)
                    refine z_istore C [1, 2, 3, 4, 5, 6, 7, 0] [(0, .ref (a 100)), (1, .int (iI t0)), (2, .int (iI sec)), (3, .int (iI pt)), (4, .int (iI x3)), (5, .long (jI sm)), (7, .int (iI sb)), (8, .int (iI x4))] hl (by decide) rfl dX8_home_97 (fun ls hl => ?_)
                    refine z_lload C hl 5 rfl dX8_home_99 ?_
                    refine z_aload_n C hl 0 rfl dX8_home_101 ?_
                    refine zg_X8_162 C hP dX8_home_102 ?_
                    refine z_iconst C dX8_home_105 ?_
                    refine z_iload C hl 7 rfl dX8_home_106 ?_
                    refine z_imul C dX8_home_108 ?_
                    refine z_iadd C dX8_home_109 ?_
                    refine z_iload_n C hl 2 rfl dX8_home_110 ?_
                    refine z_icmp_gt C 136 dX8_home_111 (by decide) ⟨by omega, by omega⟩ ⟨by omega, by omega⟩ (fun c_111 => ?_) (fun c_111 => ?_)
                    · refine z_lconst C (z := 0) rfl dX8_home_136 ?_
                      refine z_ladd C dX8_home_137 ?_
                      refine z_topl (fun x5 hx5 => ?_)
                      refine z_lstore C [1, 2, 3, 4, 5, 0, 6, 7] [(0, .ref (a 100)), (1, .int (iI t0)), (2, .int (iI sec)), (3, .int (iI pt)), (4, .int (iI x3)), (5, .long (jI x5)), (7, .int (iI sb)), (8, .int (iI x4))] hl (by decide) rfl dX8_home_138 (fun ls hl => ?_)
                      refine z_iinc C 6 [1, 2, 3, 4, 5, 6, 0, 7] [(0, .ref (a 100)), (1, .int (iI t0)), (2, .int (iI sec)), (3, .int (iI pt)), (4, .int (iI x3)), (5, .long (jI x5)), (7, .int (iI (sb + 1))), (8, .int (iI x4))] hl rfl (by decide) rfl dX8_home_140 (fun ls hl => ?_)
                      refine z_goto C 83 dX8_home_143 (by decide) ?_
                      exact ih_83 x5 (sb + 1) t2 H locs hP hS ls (by rfl) (by omega) (by rw [mSum_s _ ii.1, ← iv]; unfold jHF; rw [← h4n, hx4, ← hok.2.2.1]; first | (rw [if_pos (by omega)]; omega) | (rw [if_neg (by omega)]; omega)) (by omega) (lv_sub hl [0, 1, 2, 3, 4, 5, 6] rfl)
                    · have hjt := jHF_t (t := t0) (n := x3) (p := x4) (by omega) (by omega) (by omega)
                      refine z_iload_n C hl 1 rfl dX8_home_114 ?_
                      refine z_iload C hl 7 rfl dX8_home_115 ?_
                      refine z_sSl C hP (As := [.int (iI t0), .int (iI x4)]) lk_X8_295 (c_X8_powers hI t2 t0 x4 ⟨by omega, by omega⟩ ⟨by omega, by omega⟩) rfl hl.1 rfl (Nat.le_of_ble_eq_true rfl) ⟨Nat.le_of_ble_eq_true rfl, Nat.le_of_ble_eq_true rfl⟩ ⟨Nat.zero_le _, Nat.zero_le _⟩ dX8_home_117 ?_
                      refine z_bipush C (by decide +kernel) dX8_home_120 ?_
                      refine z_iload_n C hl 1 rfl dX8_home_122 ?_
                      refine z_isub C dX8_home_123 ?_
                      refine z_iload C hl 4 rfl dX8_home_124 ?_
                      refine z_iload C hl 7 rfl dX8_home_126 ?_
                      refine z_isub C dX8_home_128 ?_
                      refine z_sSl C hP (As := [.int (iI (10 - t0)), .int (iI (x3 - x4))]) lk_X8_295 (c_X8_powers hI t2 (10 - t0) (x3 - x4) ⟨by omega, by omega⟩ ⟨by omega, by omega⟩) rfl hl.1 rfl (Nat.le_of_ble_eq_true rfl) ⟨Nat.le_of_ble_eq_true rfl, Nat.le_of_ble_eq_true rfl⟩ ⟨Nat.zero_le _, Nat.zero_le _⟩ dX8_home_129 ?_
                      refine z_lmul C dX8_home_132 ?_
                      refine z_goto C 137 dX8_home_133 (by decide) ?_
                      refine z_ladd C dX8_home_137 ?_
                      refine z_topl (fun x6 hx6 => ?_)
                      refine z_lstore C [1, 2, 3, 4, 5, 0, 6, 7] [(0, .ref (a 100)), (1, .int (iI t0)), (2, .int (iI sec)), (3, .int (iI pt)), (4, .int (iI x3)), (5, .long (jI x6)), (7, .int (iI sb)), (8, .int (iI x4))] hl (by decide) rfl dX8_home_138 (fun ls hl => ?_)
                      refine z_iinc C 6 [1, 2, 3, 4, 5, 6, 0, 7] [(0, .ref (a 100)), (1, .int (iI t0)), (2, .int (iI sec)), (3, .int (iI pt)), (4, .int (iI x3)), (5, .long (jI x6)), (7, .int (iI (sb + 1))), (8, .int (iI x4))] hl rfl (by decide) rfl dX8_home_140 (fun ls hl => ?_)
                      refine z_goto C 83 dX8_home_143 (by decide) ?_
                      exact ih_83 x6 (sb + 1) t2 H locs hP hS ls (by rfl) (by omega) (by rw [mSum_s _ ii.1, ← iv]; unfold jHF; rw [← h4n, hx4, ← hok.2.2.1]; first | (rw [if_pos (by omega)]; omega) | (rw [if_neg (by omega)]; omega)) (by omega) (lv_sub hl [0, 1, 2, 3, 4, 5, 6] rfl)
              exact L_83 _ 0 0 t2 _ _ hP hS ls (by rfl) (by omega) (by rfl) (Nat.lt_succ_self _) (lv_sub hl [0, 1, 2, 3, 4, 5, 6] rfl)
            · refine z_ldc2 C (z := (-1000000000000000004)) wd_780 (by decide +kernel) dX8_home_73 ?_
              exact z_retQl C hP hS hr hlocks (by exact ⟨fun h => absurd h b_1, fun _ h => (by exfalso; omega), fun _ _ => Or.inr ⟨ρ, hy, (by rw [if_pos (by omega)])⟩, ft2⟩) dX8_home_76
          · refine z_ldc2 C (z := (-1000000000000000005)) wd_475 (by decide +kernel) dX8_home_56 ?_
            exact z_retQl C hP hS hr hlocks (by exact ⟨fun h => absurd h b_1, fun _ h => (by exfalso; omega), fun _ _ => Or.inl ⟨(by rcases hp50.1 with h | h; exact h.2; exact absurd h.1 (by omega)), rfl⟩, ft2⟩) dX8_home_59
        · rw [show (if 0 ≤ pt ∧ pt ≤ 1 then (1 : Int) else 0) = 0 from if_neg b_39]
          refine z_ifF_ne C 49 dX8_home_42 (by decide) ⟨by decide, by decide⟩ (by decide) ?_
          refine z_ldc2 C (z := (-1000000000000000002)) wd_474 (by decide +kernel) dX8_home_45 ?_
          exact z_retQl C hP hS hr hlocks (by exact ⟨fun h => absurd h b_1, fun _ _ => rfl, fun _ h => (by exfalso; omega), jFr_0 _⟩) dX8_home_48
      · rw [show (if 0 ≤ sec ∧ sec ≤ 9999 then (1 : Int) else 0) = 0 from if_neg b_29]
        refine z_ifT_eq C 45 dX8_home_32 (by decide) ⟨by decide, by decide⟩ (by decide) ?_
        refine z_ldc2 C (z := (-1000000000000000002)) wd_474 (by decide +kernel) dX8_home_45 ?_
        exact z_retQl C hP hS hr hlocks (by exact ⟨fun h => absurd h b_1, fun _ _ => rfl, fun _ h => (by exfalso; omega), jFr_0 _⟩) dX8_home_48
    · rw [show (if 0 ≤ t0 ∧ t0 ≤ 10 then (1 : Int) else 0) = 0 from if_neg b_17]
      refine z_ifT_eq C 45 dX8_home_20 (by decide) ⟨by decide, by decide⟩ (by decide) ?_
      refine z_ldc2 C (z := (-1000000000000000002)) wd_474 (by decide +kernel) dX8_home_45 ?_
      exact z_retQl C hP hS hr hlocks (by exact ⟨fun h => absurd h b_1, fun _ _ => rfl, fun _ h => (by exfalso; omega), jFr_0 _⟩) dX8_home_48

set_option maxRecDepth 20000 in
set_option maxHeartbeats 4000000 in
theorem c_X8_mean {l : Launch} {D : va_G} {Y : Nat → ClassId} {a : Int → Nat} (hI : zI a) (σ : zS) (t0 pt : Int) (r1 : R3 t0) (r2 : R3 pt) (hrb : 0 ≤ σ 100 0 ∧ σ 100 0 ≤ 15) (hse : (0 ≤ σ 100 5 ∧ σ 100 5 ≤ 3) ∧ (0 ≤ σ 100 6 ∧ σ 100 6 ≤ 3)) (hnm : 1 ≤ σ 100 11 ∧ σ 100 11 ≤ 24) (hpm : 0 ≤ σ 100 18 ∧ σ 100 18 ≤ 110) (hpq : ∀ i : Int, 0 ≤ i → i < 110 → 0 ≤ σ 110 i ∧ σ 110 i ≤ 126) (hrd : ∀ r : Int, 0 ≤ r → r ≤ 3 → (0 ≤ σ 101 r ∧ σ 101 r ≤ 20) ∧ (0 ≤ σ 102 r ∧ σ 102 r ≤ 10) ∧ (0 ≤ σ 103 r ∧ σ 103 r ≤ 9)) (hho : 5 ≤ σ 100 7 ∧ σ 100 7 ≤ 20) (hpz : 0 ≤ σ 100 8 ∧ σ 100 8 ≤ 99) (hch : ∀ i : Int, 0 ≤ i → i < 24 → 0 ≤ σ 105 i ∧ σ 105 i ≤ 200) : zMet l yX8_mean cX8_mean 3 (some .long) 7 (zPc D Y a σ [.ref (a 100), .int (iI t0), .int (iI pt)]) (zQl D Y a (fun r τ => (¬ (mBit (σ 100 0) (σ 100 5) = 1 ∧ mBit (σ 100 0) (σ 100 6) = 1 ∧ σ 100 5 ≠ σ 100 6) → r = (-1000000000000000003)) ∧ (mBit (σ 100 0) (σ 100 5) = 1 ∧ mBit (σ 100 0) (σ 100 6) = 1 ∧ σ 100 5 ≠ σ 100 6 → ¬ ((0 ≤ t0 ∧ t0 ≤ 10) ∧ 0 ≤ pt ∧ pt ≤ 1) → r = (-1000000000000000002)) ∧ (mBit (σ 100 0) (σ 100 5) = 1 ∧ mBit (σ 100 0) (σ 100 6) = 1 ∧ σ 100 5 ≠ σ 100 6 → (0 ≤ t0 ∧ t0 ≤ 10) ∧ 0 ≤ pt ∧ pt ≤ 1 → (jNo σ ∧ r = (-1000000000000000005)) ∨ ∃ ρ : zS, jYes σ ρ ∧ r = mFrac (10 * (jS ρ (σ 100 11).toNat) + 5 * jCn σ * t0) 10 pt) ∧ jFr σ τ)) (inA a) := by
  refine z_start rfl (Nat.le_of_ble_eq_true rfl) hI ?_
  intro p e s m below meth c ls C hr hlocks hl hP
  have hS : va_S (inA a) s.heap s.heap [] := va_S.rf
  have hl : lv_has ls 3 [(0, .ref (a 100)), (1, .int (iI t0)), (2, .int (iI pt))] := hl
  skip
  refine z_aload_n C hl 0 rfl dX8_mean_0 ?_
  refine z_vSi C hP (As := []) lk_X8_206 (c_X8_isNobody hI σ  hrb hse) ob_100 rfl rfl rfl hl.1 rfl (Nat.le_of_ble_eq_true rfl) ⟨Nat.le_of_ble_eq_true rfl, Nat.le_of_ble_eq_true rfl⟩ ⟨Nat.zero_le _, Nat.zero_le _⟩ dX8_mean_1 ?_
  by_cases b_1 : ¬ (mBit (σ 100 0) (σ 100 5) = 1 ∧ mBit (σ 100 0) (σ 100 6) = 1 ∧ σ 100 5 ≠ σ 100 6)
  · rw [show (if ¬ (mBit (σ 100 0) (σ 100 5) = 1 ∧ mBit (σ 100 0) (σ 100 6) = 1 ∧ σ 100 5 ≠ σ 100 6) then (1 : Int) else 0) = 1 from if_pos b_1]
    refine z_ifF_eq C 11 dX8_mean_4 (by decide) ⟨by decide, by decide⟩ (by decide) ?_
    refine z_ldc2 C (z := (-1000000000000000003)) wd_473 (by decide +kernel) dX8_mean_7 ?_
    exact z_retQl C hP hS hr hlocks (by exact ⟨fun _ => rfl, fun h => absurd h b_1, fun h => absurd h b_1, jFr_0 _⟩) dX8_mean_10
  · rw [show (if ¬ (mBit (σ 100 0) (σ 100 5) = 1 ∧ mBit (σ 100 0) (σ 100 6) = 1 ∧ σ 100 5 ≠ σ 100 6) then (1 : Int) else 0) = 0 from if_neg b_1]
    refine z_ifT_eq C 11 dX8_mean_4 (by decide) ⟨by decide, by decide⟩ (by decide) ?_
    refine z_iload_n C hl 1 rfl dX8_mean_11 ?_
    refine z_i2l C ⟨by omega, by omega⟩ dX8_mean_12 ?_
    refine z_lconst C (z := 0) rfl dX8_mean_13 ?_
    refine z_ldc2 C (z := 10) wd_170 (by decide +kernel) dX8_mean_14 ?_
    refine z_sSi C hP (As := [.long (jI t0), .long (jI 0), .long (jI 10)]) lk_X8_86 (c_X8_in hI σ t0 0 10 ⟨by omega, by omega⟩ ⟨by omega, by omega⟩ ⟨by omega, by omega⟩) rfl hl.1 rfl (Nat.le_of_ble_eq_true rfl) ⟨Nat.le_of_ble_eq_true rfl, Nat.le_of_ble_eq_true rfl⟩ ⟨Nat.zero_le _, Nat.zero_le _⟩ dX8_mean_17 ?_
    by_cases b_17 : 0 ≤ t0 ∧ t0 ≤ 10
    · rw [show (if 0 ≤ t0 ∧ t0 ≤ 10 then (1 : Int) else 0) = 1 from if_pos b_17]
      refine z_ifF_eq C 33 dX8_mean_20 (by decide) ⟨by decide, by decide⟩ (by decide) ?_
      refine z_iload_n C hl 2 rfl dX8_mean_23 ?_
      refine z_i2l C ⟨by omega, by omega⟩ dX8_mean_24 ?_
      refine z_lconst C (z := 0) rfl dX8_mean_25 ?_
      refine z_lconst C (z := 1) rfl dX8_mean_26 ?_
      refine z_sSi C hP (As := [.long (jI pt), .long (jI 0), .long (jI 1)]) lk_X8_86 (c_X8_in hI σ pt 0 1 ⟨by omega, by omega⟩ ⟨by omega, by omega⟩ ⟨by omega, by omega⟩) rfl hl.1 rfl (Nat.le_of_ble_eq_true rfl) ⟨Nat.le_of_ble_eq_true rfl, Nat.le_of_ble_eq_true rfl⟩ ⟨Nat.zero_le _, Nat.zero_le _⟩ dX8_mean_27 ?_
      by_cases b_27 : 0 ≤ pt ∧ pt ≤ 1
      · rw [show (if 0 ≤ pt ∧ pt ≤ 1 then (1 : Int) else 0) = 1 from if_pos b_27]
        refine z_ifT_ne C 37 dX8_mean_30 (by decide) ⟨by decide, by decide⟩ (by decide) ?_
        refine z_aload_n C hl 0 rfl dX8_mean_37 ?_
        refine z_vQi hS C hP (As := []) lk_X8_215 (c_X8_isRefused hI σ  hrb hse hnm hpm hpq hrd hho hpz hch) ob_100 rfl rfl rfl hl.1 rfl (Nat.le_of_ble_eq_true rfl) ⟨Nat.le_of_ble_eq_true rfl, Nat.le_of_ble_eq_true rfl⟩ ⟨Nat.zero_le _, Nat.zero_le _⟩ dX8_mean_38 (fun r1 t2 H locs hp38 hP hS => ?_)
        have ft2 : jFr σ t2 := hp38.2
        have hr01 : r1 = 0 ∨ r1 = 1 := by rcases hp38.1 with h | h; exact Or.inr h.1; exact Or.inl h.1
        refine z_if_eq C 48 dX8_mean_41 (by decide) ⟨by omega, by omega⟩ (fun c_41 => ?_) (fun c_41 => ?_)
        · obtain ⟨ρ, hy, hsm, hok⟩ : ∃ ρ : zS, jYes σ ρ ∧ jSame ρ t2 ∧ jOk ρ t2 (σ 100 11) := by rcases hp38.1 with h | h; exact absurd h.1 (by omega); exact h.2
          have hj := jSame_j hsm
          have hjb := jYes_b hse hrd hho hpz hnm hch hy hsm hok
          refine z_ldc2 C (z := 10) wd_170 (by decide +kernel) dX8_mean_48 ?_
          refine z_aload_n C hl 0 rfl dX8_mean_51 ?_
          refine zg_X8_162 C hP dX8_mean_52 ?_
          refine z_i2l C ⟨by omega, by omega⟩ dX8_mean_55 ?_
          refine z_lmul C dX8_mean_56 ?_
          refine z_ldc2 C (z := 5) wd_213 (by decide +kernel) dX8_mean_57 ?_
          refine z_aload_n C hl 0 rfl dX8_mean_60 ?_
          refine z_vSi C hP (As := []) lk_X8_290 (c_X8_corners hI t2  (by rw [ft2 100 11 (by omega) (by omega)]; exact hnm) (fun i h1 h2 => by rw [ft2 105 i (by omega) (by omega)]; exact hch i h1 h2)) ob_100 rfl rfl rfl hl.1 rfl (Nat.le_of_ble_eq_true rfl) ⟨Nat.le_of_ble_eq_true rfl, Nat.le_of_ble_eq_true rfl⟩ ⟨Nat.zero_le _, Nat.zero_le _⟩ dX8_mean_61 ?_
          rw [jCn_c ft2]
          have hcn := jCn_b hnm
          have hml := mulb (x := 5 * jCn σ) (y := t0) (A := 120) (B := 10) (by omega) (by omega)
          refine z_i2l C ⟨by omega, by omega⟩ dX8_mean_64 ?_
          refine z_lmul C dX8_mean_65 ?_
          refine z_iload_n C hl 1 rfl dX8_mean_66 ?_
          refine z_i2l C ⟨by omega, by omega⟩ dX8_mean_67 ?_
          refine z_lmul C dX8_mean_68 ?_
          refine z_ladd C dX8_mean_69 ?_
          refine z_ldc2 C (z := 10) wd_170 (by decide +kernel) dX8_mean_70 ?_
          refine z_iload_n C hl 2 rfl dX8_mean_73 ?_
          refine z_sSl C hP (As := [.long (jI ((10 * (t2 100 25)) + ((5 * (jCn σ)) * t0))), .long (jI 10), .int (iI pt)]) lk_X8_224 (c_X8_lowest hI t2 ((10 * (t2 100 25)) + ((5 * (jCn σ)) * t0)) 10 pt ⟨by omega, by omega⟩ ⟨by decide, by decide⟩ ⟨by omega, by omega⟩) rfl hl.1 rfl (Nat.le_of_ble_eq_true rfl) ⟨Nat.le_of_ble_eq_true rfl, Nat.le_of_ble_eq_true rfl⟩ ⟨Nat.zero_le _, Nat.zero_le _⟩ dX8_mean_74 ?_
          exact z_retQl C hP hS hr hlocks (by exact ⟨fun h => absurd h b_1, fun _ h => (by exfalso; omega), fun _ _ => Or.inr ⟨ρ, hy, (by rw [← hok.2.2.1])⟩, ft2⟩) dX8_mean_77
        · refine z_ldc2 C (z := (-1000000000000000005)) wd_475 (by decide +kernel) dX8_mean_44 ?_
          exact z_retQl C hP hS hr hlocks (by exact ⟨fun h => absurd h b_1, fun _ h => (by exfalso; omega), fun _ _ => Or.inl ⟨(by rcases hp38.1 with h | h; exact h.2; exact absurd h.1 (by omega)), rfl⟩, ft2⟩) dX8_mean_47
      · rw [show (if 0 ≤ pt ∧ pt ≤ 1 then (1 : Int) else 0) = 0 from if_neg b_27]
        refine z_ifF_ne C 37 dX8_mean_30 (by decide) ⟨by decide, by decide⟩ (by decide) ?_
        refine z_ldc2 C (z := (-1000000000000000002)) wd_474 (by decide +kernel) dX8_mean_33 ?_
        exact z_retQl C hP hS hr hlocks (by exact ⟨fun h => absurd h b_1, fun _ _ => rfl, fun _ h => (by exfalso; omega), jFr_0 _⟩) dX8_mean_36
    · rw [show (if 0 ≤ t0 ∧ t0 ≤ 10 then (1 : Int) else 0) = 0 from if_neg b_17]
      refine z_ifT_eq C 33 dX8_mean_20 (by decide) ⟨by decide, by decide⟩ (by decide) ?_
      refine z_ldc2 C (z := (-1000000000000000002)) wd_474 (by decide +kernel) dX8_mean_33 ?_
      exact z_retQl C hP hS hr hlocks (by exact ⟨fun h => absurd h b_1, fun _ _ => rfl, fun _ h => (by exfalso; omega), jFr_0 _⟩) dX8_mean_36
