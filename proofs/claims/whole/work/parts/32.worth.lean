def kAllR (σ : zS) (rm : Int) : Prop := ∀ j : Int, 0 ≤ j → j < σ 32 12 → kY (kRho σ) rm j = -6
def kNoR (σ : zS) : Prop := ∀ i : Int, 0 ≤ i → i < σ 32 12 → mRst (mSg σ) i = 0
theorem kGo_orR {σ σ1 τ : zS} {rm : Int} (hn : 1 ≤ σ 32 12 ∧ σ 32 12 ≤ 24) (hse : (0 ≤ σ 32 7 ∧ σ 32 7 ≤ 3) ∧ (0 ≤ σ 32 8 ∧ σ 32 8 ≤ 3)) (hl : kLike σ1 (kRho σ)) (g : kGo σ1 τ rm) : (τ 10 4 = -6 ∧ kAllR σ rm) ∨ ((0 ≤ τ 10 4 ∧ τ 10 4 < 24) ∧ ¬ kAllR σ rm ∧ τ 10 4 < σ 32 12 ∧ kY (kRho σ) rm (τ 10 4) ≠ -6 ∧ ∀ j : Int, 0 ≤ j → j < τ 10 4 → kY (kRho σ) rm j = -6) := by
  have e : kRho σ 32 = σ 32 := kRho_c σ (by omega)
  have k := kGo_like hl (by rw [e]; exact hse) (by rw [e]; exact hn) g
  rw [e] at k
  rcases kFirst (kY (kRho σ) rm) (σ 32 12).toNat with h | ⟨q, h1, h2, h3, h4⟩
  · have ha : kAllR σ rm := fun j h1 h2 => h j h1 (by omega)
    exact Or.inl ⟨(k.1 ha).1.1, ha⟩
  · have := k.2 q h1 (by omega) h3 h4
    refine Or.inr ⟨⟨by omega, by omega⟩, fun ha => h3 (ha q h1 (by omega)), by omega, by rw [this.1]; exact h3, by rw [this.1]; exact h4⟩
theorem kLike_t {σ1 τ ρ : zS} (h : kLike σ1 ρ) (hP : ∀ k : Int, k < 10 ∨ 14 < k → τ k = σ1 k) : kLike τ ρ := ⟨fun k hk => by rw [hP k (by omega)]; exact h.1 k hk, fun j h1 h2 => by rw [hP 6 (by omega), hP 7 (by omega), hP 8 (by omega), hP 9 (by omega)]; exact h.2 j h1 h2⟩
theorem first_one {Z : Int → Int} {q r : Int} (h1 : 0 ≤ q) (h2 : Z q ≠ -6) (h3 : ∀ j : Int, 0 ≤ j → j < q → Z j = -6) (k1 : 0 ≤ r) (k2 : Z r ≠ -6) (k3 : ∀ j : Int, 0 ≤ j → j < r → Z j = -6) : q = r := by
  rcases Int.lt_trichotomy q r with h | h | h
  · exact absurd (k3 q h1 h) h2
  · exact h
  · exact absurd (h3 r k1 h) k2

set_option maxRecDepth 20000 in
set_option maxHeartbeats 4000000 in
theorem c_X7_worth {l : Launch} {D : va_G} {Y : Nat → ClassId} {a : Int → Nat} (hI : zI a) (σ : zS)  (hth : ∀ r : Int, 0 ≤ r → r ≤ 3 → σ (40 + r) 0 = 0 ∨ σ (40 + r) 0 = 1) (hn : 1 ≤ σ 32 12 ∧ σ 32 12 ≤ 24) (hg : ∀ i : Int, 0 ≤ i → i < 24 → -1 ≤ σ 35 i ∧ σ 35 i ≤ 6) (hse : (0 ≤ σ 32 7 ∧ σ 32 7 ≤ 3) ∧ (0 ≤ σ 32 8 ∧ σ 32 8 ≤ 3)) (hrd : ∀ r : Int, 0 ≤ r → r ≤ 3 → (0 ≤ σ (40 + r) 1 ∧ σ (40 + r) 1 ≤ 20) ∧ (0 ≤ σ (40 + r) 2 ∧ σ (40 + r) 2 ≤ 10) ∧ (0 ≤ σ (40 + r) 3 ∧ σ (40 + r) 3 ≤ 9) ∧ (0 ≤ σ (40 + r) 4 ∧ σ (40 + r) 4 ≤ 50)) (hho : 5 ≤ σ 32 9 ∧ σ 32 9 ≤ 20) (hpz : 0 ≤ σ 32 10 ∧ σ 32 10 ≤ 99) (hp : 0 ≤ σ 3 1 ∧ σ 3 1 ≤ 110) (hq : ∀ i : Int, 0 ≤ i → i < 110 → 0 ≤ σ 4 i ∧ σ 4 i ≤ 126) : zMet l yX7_worth cX7_worth 3 (some .int) 4 (zPc D Y a σ [.ref (a 0)]) (zQi D Y a (fun r τ => (¬ (σ (40 + σ 32 7) 0 = 1 ∧ σ (40 + σ 32 8) 0 = 1) → r = -3) ∧ (σ (40 + σ 32 7) 0 = 1 ∧ σ (40 + σ 32 8) 0 = 1 → ¬ (kPl σ ∧ kNoR σ) → r = -5) ∧ (σ (40 + σ 32 7) 0 = 1 ∧ σ (40 + σ 32 8) 0 = 1 → kPl σ → kNoR σ → (kAll σ → r = -6) ∧ (∀ q : Int, 0 ≤ q → q < σ 32 12 → kY (kRho σ) (-1) q ≠ -6 → (∀ j : Int, 0 ≤ j → j < q → kY (kRho σ) (-1) j = -6) → ((r = -6 ∧ ∀ s : Int, 0 ≤ s → s ≤ q → ¬ kAllR σ s) ∨ (0 ≤ r ∧ r ≤ q ∧ kAllR σ r ∧ ∀ s : Int, 0 ≤ s → s < r → ¬ kAllR σ s)))) ∧ (∀ k : Int, k < 6 ∨ 14 < k → τ k = σ k))) (inA a) := by
  refine z_start rfl (Nat.le_of_ble_eq_true rfl) hI ?_
  intro p e s m below meth c ls C hr hlocks hl hP
  have hS : va_S (inA a) s.heap s.heap [] := va_S.rf
  have hl : lv_has ls 3 [(0, .ref (a 0))] := hl
  skip
  refine z_aload_n C hl 0 rfl dX7_worth_0 ?_
  refine z_vSi C hP (As := []) lk_X7_122 (c_X7_areSeated hI σ  hth hse) ob_0 rfl rfl rfl hl.1 rfl (Nat.le_of_ble_eq_true rfl) ⟨Nat.le_of_ble_eq_true rfl, Nat.le_of_ble_eq_true rfl⟩ ⟨Nat.zero_le _, Nat.zero_le _⟩ dX7_worth_1 ?_
  by_cases b_1 : σ (40 + σ 32 7) 0 = 1 ∧ σ (40 + σ 32 8) 0 = 1
  · rw [show (if σ (40 + σ 32 7) 0 = 1 ∧ σ (40 + σ 32 8) 0 = 1 then (1 : Int) else 0) = 1 from if_pos b_1]
    refine z_ifT_ne C 10 dX7_worth_4 (by decide) ⟨by decide, by decide⟩ (by decide) ?_
    refine z_aload_n C hl 0 rfl dX7_worth_10 ?_
    refine zg_X7_34 C hP dX7_worth_11 ?_
    refine z_aload_n C hl 0 rfl dX7_worth_14 ?_
    refine zg_X7_27 C hP dX7_worth_15 ?_
    refine z_aload_n C hl 0 rfl dX7_worth_18 ?_
    refine zg_X7_12 C hP dX7_worth_19 ?_
    refine zg32_X7_104 C hP dX7_worth_22 ?_
    refine z_vQi hS C hP (As := [.ref (a 3), .int (iI (σ 32 12))]) lk_X7_107 (c_X2_read hI σ (σ 32 12) hn hp hq) ob_5 rfl rfl rfl hl.1 rfl (Nat.le_of_ble_eq_true rfl) ⟨Nat.le_of_ble_eq_true rfl, Nat.le_of_ble_eq_true rfl⟩ ⟨Nat.zero_le _, Nat.zero_le _⟩ dX7_worth_25 (fun r1 t2 H locs hp25 hP hS => ?_)
    have ft2 : ∀ k : Int, k < 6 ∨ 14 < k → t2 k = σ k := fun k hk => hp25.2.1 k (by omega)
    have hmr := mRd_r (mSg σ) (σ 32 12) (σ 3 1) hn
    refine z_bipush C (by decide +kernel) dX7_worth_28 ?_
    refine z_icmp_ne C 50 dX7_worth_30 (by decide) ⟨by omega, by omega⟩ ⟨by omega, by omega⟩ (fun c_30 => ?_) (fun c_30 => ?_)
    · refine z_bipush C (by decide +kernel) dX7_worth_50 ?_
      exact z_retQi C hP hS hr hlocks rfl (by exact ⟨fun h => absurd b_1 h, fun _ _ => rfl, fun _ h1 h2 => (by first | (exact absurd (hp25.1.trans h1) c_30) | (obtain ⟨i, a1, a2, a3⟩ := b_44; have h3 := (hp25.2.2 (by omega) i a1 a2).1; have h4 := h2 i a1 a2; omega)), ft2⟩) dX7_worth_52
    · have hk : kPl σ := hp25.1.symm.trans c_30
      refine z_aload_n C hl 0 rfl dX7_worth_33 ?_
      refine zg_X7_34 C hP dX7_worth_34 ?_
      refine z_aload_n C hl 0 rfl dX7_worth_37 ?_
      refine zg_X7_12 C hP dX7_worth_38 ?_
      refine zg32_X7_104 C hP dX7_worth_41 ?_
      rw [show t2 32 12 = σ 32 12 from by rw [ft2 32 (by omega)]]
      refine z_vSi C hP (As := [.int (iI (σ 32 12))]) lk_X7_233 (c_X2_restsIn hI t2 (σ 32 12) (by omega) (fun i h1 h2 => by rw [(hp25.2.2 (by omega) i h1 h2).1]; have := mRst_or (mSg σ) i; omega)) ob_5 rfl rfl rfl hl.1 rfl (Nat.le_of_ble_eq_true rfl) ⟨Nat.le_of_ble_eq_true rfl, Nat.le_of_ble_eq_true rfl⟩ ⟨Nat.zero_le _, Nat.zero_le _⟩ dX7_worth_44 ?_
      by_cases b_44 : ∃ i : Int, 0 ≤ i ∧ i < (σ 32 12) ∧ t2 6 i = 1
      · rw [show (mB (∃ i : Int, 0 ≤ i ∧ i < (σ 32 12) ∧ t2 6 i = 1)) = 1 from mB_t b_44]
        refine z_ifF_eq C 53 dX7_worth_47 (by decide) ⟨by decide, by decide⟩ (by decide) ?_
        refine z_bipush C (by decide +kernel) dX7_worth_50 ?_
        exact z_retQi C hP hS hr hlocks rfl (by exact ⟨fun h => absurd b_1 h, fun _ _ => rfl, fun _ h1 h2 => (by first | (exact absurd (hp25.1.trans h1) c_30) | (obtain ⟨i, a1, a2, a3⟩ := b_44; have h3 := (hp25.2.2 (by omega) i a1 a2).1; have h4 := h2 i a1 a2; omega)), ft2⟩) dX7_worth_52
      · rw [show (mB (∃ i : Int, 0 ≤ i ∧ i < (σ 32 12) ∧ t2 6 i = 1)) = 0 from mB_f b_44]
        refine z_ifT_eq C 53 dX7_worth_47 (by decide) ⟨by decide, by decide⟩ (by decide) ?_
        have hno : kNoR σ := fun i h1 h2 => by have h3 := (hp25.2.2 (by omega) i h1 h2).1; have h4 := mRst_or (mSg σ) i; rcases h4 with h4 | h4; exact absurd ⟨i, h1, h2, (by omega)⟩ b_44; exact h4.2
        refine z_aload_n C hl 0 rfl dX7_worth_53 ?_
        refine zg_X7_41 C hP dX7_worth_54 ?_
        refine z_aload_n C hl 0 rfl dX7_worth_57 ?_
        refine zg_X7_12 C hP dX7_worth_58 ?_
        refine z_aload_n C hl 0 rfl dX7_worth_61 ?_
        refine zg_X7_34 C hP dX7_worth_62 ?_
        refine z_iconst C dX7_worth_65 ?_
        refine z_vQv hS C hP (As := [.ref (a 32), .ref (a 5), .int (iI (-1))]) lk_X7_126 (c_X3_go hI t2 (-1) (by omega) (by rw [hp25.2.1 32 (by omega)]; exact hn) (by rw [hp25.2.1 35 (by omega)]; exact hg) (by rw [hp25.2.1 32 (by omega)]; exact hse) (fun r h1 h2 => by rw [hp25.2.1 (40 + r) (by omega)]; exact hrd r h1 h2) (by rw [hp25.2.1 32 (by omega)]; exact hho) (by rw [hp25.2.1 32 (by omega)]; exact hpz) (read_pln hn hp25.2.1 (hp25.2.2 (by omega)) hk)) ob_10 rfl rfl rfl hl.1 rfl (Nat.le_of_ble_eq_true rfl) ⟨Nat.le_of_ble_eq_true rfl, Nat.le_of_ble_eq_true rfl⟩ ⟨Nat.zero_le _, Nat.zero_le _⟩ dX7_worth_66 (fun t4 H locs hp66 hP hS => ?_)
        have ft4 : ∀ k : Int, k < 6 ∨ 14 < k → t4 k = σ k := fun k hk => by rw [hp66.1 k (by omega), hp25.2.1 k (by omega)]
        have hst := kGo_or hn hse (read_like hp25.2.1 (hp25.2.2 (by omega))) hp66
        have hpln := read_pln hn hp25.2.1 (hp25.2.2 (by omega)) hk
        have hlk := read_like hp25.2.1 (hp25.2.2 (by omega))
        refine z_aload_n C hl 0 rfl dX7_worth_69 ?_
        refine zg_X7_41 C hP dX7_worth_70 ?_
        refine zg_X7_130 C hP dX7_worth_73 ?_
        refine z_topi (fun x5 hx5 => ?_)
        refine z_istore_n C [1, 0] [(0, .ref (a 0)), (1, .int (iI x5))] hl (by decide) rfl dX7_worth_76 (fun ls hl => ?_)
        refine z_iconst C dX7_worth_77 ?_
        refine z_istore_n C [1, 2, 0] [(0, .ref (a 0)), (1, .int (iI x5)), (2, .int (iI 0))] hl (by decide) rfl dX7_worth_78 (fun ls hl => ?_)
        have L_79 : ∀ (n : Nat) (s0 : Int) (τ : zS) (H : Heap) (locs : List Loc) (hP : GP D Y a τ H) (hS : va_S (inA a) s.heap H locs) (ls : Array Slot), (0 ≤ s0 ∧ (s0 = 0 ∨ s0 ≤ x5 + 1) ∧ s0 ≤ 24) → (∀ r : Int, 0 ≤ r → r < s0 → ¬ kAllR σ r) → (∀ k : Int, k < 6 ∨ 14 < k → τ k = σ k) → (∀ k : Int, k < 10 ∨ 14 < k → τ k = t2 k) → ((24 - s0).toNat) < n → lv_has ls 3 [(0, .ref (a 0)), (1, .int (iI x5)), (2, .int (iI s0))] → W p l e (zR 4) s m ([.ref (a 0)] : List Value).toArray below meth c H locs 0 0 (MQ below (zQi D Y a (fun r τ => (¬ (σ (40 + σ 32 7) 0 = 1 ∧ σ (40 + σ 32 8) 0 = 1) → r = -3) ∧ (σ (40 + σ 32 7) 0 = 1 ∧ σ (40 + σ 32 8) 0 = 1 → ¬ (kPl σ ∧ kNoR σ) → r = -5) ∧ (σ (40 + σ 32 7) 0 = 1 ∧ σ (40 + σ 32 8) 0 = 1 → kPl σ → kNoR σ → (kAll σ → r = -6) ∧ (∀ q : Int, 0 ≤ q → q < σ 32 12 → kY (kRho σ) (-1) q ≠ -6 → (∀ j : Int, 0 ≤ j → j < q → kY (kRho σ) (-1) j = -6) → ((r = -6 ∧ ∀ s : Int, 0 ≤ s → s ≤ q → ¬ kAllR σ s) ∨ (0 ≤ r ∧ r ≤ q ∧ kAllR σ r ∧ ∀ s : Int, 0 ≤ s → s < r → ¬ kAllR σ s)))) ∧ (∀ k : Int, k < 6 ∨ 14 < k → τ k = σ k))) ([.ref (a 0)] : List Value).toArray s 0 0 (inA a)) (F0 m 79 ls []) := by
          intro n
          induction n with
          | zero =>
            intros; omega
          | succ n ih_79 =>
            intro s0 τ H locs hP hS ls is iN fτ iP hm hl
            refine z_iload_n C hl 2 rfl dX7_worth_79 ?_
            refine z_iload_n C hl 1 rfl dX7_worth_80 ?_
            refine z_icmp_gt C 120 dX7_worth_81 (by decide) ⟨by omega, by omega⟩ ⟨by omega, by omega⟩ (fun c_81 => ?_) (fun c_81 => ?_)
            · refine z_bipush C (by decide +kernel) dX7_worth_120 ?_
              exact z_retQi C hP hS hr hlocks rfl (by exact ⟨fun h => absurd b_1 h, fun _ h => absurd ⟨hk, hno⟩ h, fun _ _ _ => ⟨fun _ => rfl, fun q q1 q2 q3 q4 => (by rcases hst with h | h; exact absurd (h.2.2.1 q q1 q2) q3; have hq := first_one q1 q3 q4 h.1.1 (by rw [← h.2.2.2.1]; omega) h.2.2.2.2; exact Or.inl ⟨rfl, fun s h1 h2 => iN s h1 (by omega)⟩)⟩, fτ⟩) dX7_worth_122
            · refine z_aload_n C hl 0 rfl dX7_worth_84 ?_
              refine zg_X7_41 C hP dX7_worth_85 ?_
              refine z_aload_n C hl 0 rfl dX7_worth_88 ?_
              refine zg_X7_12 C hP dX7_worth_89 ?_
              refine z_aload_n C hl 0 rfl dX7_worth_92 ?_
              refine zg_X7_34 C hP dX7_worth_93 ?_
              refine z_iload_n C hl 2 rfl dX7_worth_96 ?_
              refine z_vQv hS C hP (As := [.ref (a 32), .ref (a 5), .int (iI s0)]) lk_X7_126 (c_X3_go hI τ s0 (by omega) (by rw [fτ 32 (by omega)]; exact hn) (by rw [fτ 35 (by omega)]; exact hg) (by rw [fτ 32 (by omega)]; exact hse) (fun r h1 h2 => by rw [fτ (40 + r) (by omega)]; exact hrd r h1 h2) (by rw [fτ 32 (by omega)]; exact hho) (by rw [fτ 32 (by omega)]; exact hpz) (by rw [iP 32 (by omega), iP 6 (by omega), iP 7 (by omega), iP 8 (by omega), iP 9 (by omega)]; exact hpln)) ob_10 rfl rfl rfl hl.1 rfl (Nat.le_of_ble_eq_true rfl) ⟨Nat.le_of_ble_eq_true rfl, Nat.le_of_ble_eq_true rfl⟩ ⟨Nat.zero_le _, Nat.zero_le _⟩ dX7_worth_97 (fun t7 H locs hp97 hP hS => ?_)
              have ft7 : ∀ k : Int, k < 6 ∨ 14 < k → t7 k = σ k := fun k hk => by rw [hp97.1 k (by omega), fτ k hk]
              have hsr := kGo_orR hn hse (kLike_t hlk iP) hp97
              refine z_aload_n C hl 0 rfl dX7_worth_100 ?_
              refine zg_X7_41 C hP dX7_worth_101 ?_
              refine zg_X7_130 C hP dX7_worth_104 ?_
              refine z_bipush C (by decide +kernel) dX7_worth_107 ?_
              refine z_icmp_ne C 114 dX7_worth_109 (by decide) ⟨by omega, by omega⟩ ⟨by omega, by omega⟩ (fun c_109 => ?_) (fun c_109 => ?_)
              · refine z_iinc C 2 [1, 2, 0] [(0, .ref (a 0)), (1, .int (iI x5)), (2, .int (iI (s0 + 1)))] hl rfl (by decide) rfl dX7_worth_114 (fun ls hl => ?_)
                refine z_goto C 79 dX7_worth_117 (by decide) ?_
                exact ih_79 (s0 + 1) t7 H locs hP hS ls (by rcases hst with h | h <;> omega) (by intro r h1 h2; exact if hr0 : r = s0 then (by subst hr0; rcases hsr with h | h; omega; exact h.2.1) else iN r h1 (by omega)) (by exact ft7) (by intro k hk; rw [hp97.1 k hk]; exact iP k hk) (by rcases hst with h | h <;> omega) (lv_sub hl [0, 1, 2] rfl)
              · refine z_iload_n C hl 2 rfl dX7_worth_112 ?_
                exact z_retQi C hP hS hr hlocks rfl (by exact ⟨fun h => absurd b_1 h, fun _ h => absurd ⟨hk, hno⟩ h, fun _ _ _ => ⟨fun ha => (by rcases hst with h | h; omega; exact absurd ha h.2.1), fun q q1 q2 q3 q4 => (by rcases hst with h | h; exact absurd (h.2.2.1 q q1 q2) q3; have hq := first_one q1 q3 q4 h.1.1 (by rw [← h.2.2.2.1]; omega) h.2.2.2.2; rcases hsr with g | g; exact Or.inr ⟨is.1, (by omega), g.2, iN⟩; omega)⟩, ft7⟩) dX7_worth_113
        exact L_79 _ 0 t4 _ _ hP hS ls (by omega) (by intro r h1 h2; omega) (by exact ft4) (by intro k hk; exact hp66.1 k hk) (Nat.lt_succ_self _) (lv_sub hl [0, 1, 2] rfl)
  · rw [show (if σ (40 + σ 32 7) 0 = 1 ∧ σ (40 + σ 32 8) 0 = 1 then (1 : Int) else 0) = 0 from if_neg b_1]
    refine z_ifF_ne C 10 dX7_worth_4 (by decide) ⟨by decide, by decide⟩ (by decide) ?_
    refine z_bipush C (by decide +kernel) dX7_worth_7 ?_
    exact z_retQi C hP hS hr hlocks rfl (by exact ⟨fun _ => rfl, fun h => absurd h b_1, fun h => absurd h b_1, fun _ _ => rfl⟩) dX7_worth_9
