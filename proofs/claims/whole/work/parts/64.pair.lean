theorem dpB_c {w1 w2 hot g x y h : Int} {q q' : Int → Int} {V V' : Int → Int → Int → Int} (hq : ∀ e : Int, 0 ≤ e → e < 25 → q e = q' e) (hV : V = V') : dpB w1 w2 hot q g V x y h = dpB w1 w2 hot q' g V' x y h := by
  subst hV
  exact mMnS_c (fun e h1 h2 => by unfold dpF; rw [hq e h1 h2])
theorem dpV_c {w1 w2 hot pz n : Int} {q q' : Int → Int → Int} {g g' : Int → Int} : ∀ {m : Nat}, (∀ k e : Int, n - m ≤ k → k < n → 0 ≤ e → e < 25 → q k e = q' k e) → (∀ k : Int, n - m ≤ k → k < n → g k = g' k) → dpV w1 w2 hot pz q g n m = dpV w1 w2 hot pz q' g' n m
  | 0, _, _ => rfl
  | m + 1, hq, hg => by
    have ih := dpV_c (w1 := w1) (w2 := w2) (hot := hot) (pz := pz) (n := n) (m := m) (fun k e h1 h2 => hq k e (by omega) h2) (fun k h1 h2 => hg k (by omega) h2)
    funext x y h
    show min (dpB w1 w2 hot (q (n - 1 - m)) (g (n - 1 - m)) (dpV w1 w2 hot pz q g n m) x y h) (dpB w1 w2 hot (q (n - 1 - m)) (g (n - 1 - m)) (dpV w1 w2 hot pz q g n m) w1 w2 0 + pz) = min (dpB w1 w2 hot (q' (n - 1 - m)) (g' (n - 1 - m)) (dpV w1 w2 hot pz q' g' n m) x y h) (dpB w1 w2 hot (q' (n - 1 - m)) (g' (n - 1 - m)) (dpV w1 w2 hot pz q' g' n m) w1 w2 0 + pz)
    rw [hg (n - 1 - m) (by omega) (by omega), dpB_c (q := q (n - 1 - m)) (q' := q' (n - 1 - m)) (fun e h1 h2 => hq _ e (by omega) (by omega) h1 h2) ih, dpB_c (q := q (n - 1 - m)) (q' := q' (n - 1 - m)) (fun e h1 h2 => hq _ e (by omega) (by omega) h1 h2) ih]
def gQ (σ : zS) (p1 p2 k e : Int) : Int := mSec (mHard (σ 35 k)) (gPT σ p1 p2 e)
def gV (σ : zS) (p1 p2 : Int) (m : Nat) : Int → Int → Int → Int := dpV (σ p1 3) (σ p2 3) (σ 32 9) (σ 32 10) (gQ σ p1 p2) (σ 35) (σ 32 12) m
def gB (σ : zS) (p1 p2 : Int) : Int := dpB (σ p1 3) (σ p2 3) (σ 32 9) (gQ σ p1 p2 0) (σ 35 0) (gV σ p1 p2 (σ 32 12 - 1).toNat) (σ p1 3) (σ p2 3) 0
theorem kSk_V {σ ρ : zS} {p1 p2 : Int} (h1 : 40 ≤ p1 ∧ p1 ≤ 43) (h2 : 40 ≤ p2 ∧ p2 ≤ 43) (hk : kSk σ ρ p1 p2) : kW1 ρ = σ p1 3 ∧ kW2 ρ = σ p2 3 ∧ (∀ m : Nat, kV ρ m = gV σ p1 p2 m) ∧ (∀ k e : Int, 0 ≤ e → e < 25 → kQ ρ k e = gQ σ p1 p2 k e) ∧ kTs ρ p1 p2 = fun e b => mTread (σ p1 1) (σ p1 2) (e / 5) b + mTread (σ p2 1) (σ p2 2) (e % 5) b := by
  obtain ⟨k1, k2, k3, k4⟩ := hk
  have e1 : kW1 ρ = σ p1 3 := k2
  have e2 : kW2 ρ = σ p2 3 := k3
  have e4 : ∀ k e : Int, 0 ≤ e → e < 25 → kQ ρ k e = gQ σ p1 p2 k e := fun k e a b => by unfold kQ gQ; rw [k1 35 (by omega), k4 e a b]
  refine ⟨e1, e2, fun m => ?_, e4, ?_⟩
  · unfold kV gV
    rw [e1, e2, k1 32 (by omega), k1 35 (by omega)]
    exact dpV_c (fun k e _ _ a b => e4 k e a b) (fun _ _ _ => rfl)
  · funext e b
    unfold kTs
    rw [k1 p1 (by omega), k1 p2 (by omega)]
theorem kSk_B {σ ρ : zS} {p1 p2 : Int} (h1 : 40 ≤ p1 ∧ p1 ≤ 43) (h2 : 40 ≤ p2 ∧ p2 ≤ 43) (hk : kSk σ ρ p1 p2) : kB0 ρ = gB σ p1 p2 := by
  have v := kSk_V h1 h2 hk
  have k1 := hk.1
  unfold kB0 kBk gB
  rw [v.1, v.2.1, k1 32 (by omega), k1 35 (by omega)]
  exact dpB_c (v.2.2.2.1 0) (v.2.2.1 _)
theorem gB_c {σ τ : zS} {p1 p2 : Int} (h1 : 40 ≤ p1 ∧ p1 ≤ 43) (h2 : 40 ≤ p2 ∧ p2 ≤ 43) (h : ∀ c : Int, c < 15 ∨ 22 < c → τ c = σ c) : gB τ p1 p2 = gB σ p1 p2 := by
  have e : gQ τ p1 p2 = gQ σ p1 p2 := by
    funext k e
    unfold gQ gPT
    rw [h 35 (by omega), h p1 (by omega), h p2 (by omega)]
  unfold gB gV
  rw [e, h 32 (by omega), h 35 (by omega), h p1 (by omega), h p2 (by omega)]
theorem gB_b {σ : zS} {p1 p2 : Int} (h1 : 0 ≤ σ p1 3) (h2 : 0 ≤ σ p2 3) (hho : 5 ≤ σ 32 9) (hpz : 0 ≤ σ 32 10 ∧ σ 32 10 ≤ 99) (hn : 1 ≤ σ 32 12 ∧ σ 32 12 ≤ 24) : 0 ≤ gB σ p1 p2 ∧ gB σ p1 p2 ≤ 9000 := by
  have q : ∀ k e : Int, 1 ≤ gQ σ p1 p2 k e ∧ gQ σ p1 p2 k e ≤ 241 := fun k e => mSec_b (by have := mHard_b (σ 35 k); omega)
  have a1 := dpB_fin (g := σ 35 0) h1 h2 hho (gQ σ p1 p2 0) (gV σ p1 p2 (σ 32 12 - 1).toNat)
  have a2 := dpV_fin (n := σ 32 12) (g := σ 35) (q := gQ σ p1 p2) h1 h2 hho (fun k e => (q k e).2) hpz.2 (σ 32 12 - 1).toNat (σ p1 3) (σ p2 3) (mHeat 0 (σ 35 0))
  have a3 := q 0 0
  have a4 : gV σ p1 p2 (σ 32 12 - 1).toNat (σ p1 3) (σ p2 3) (mHeat 0 (σ 35 0)) ≤ 340 * (σ 32 12 - 1).toNat := a2
  have a5 : gB σ p1 p2 ≤ gQ σ p1 p2 0 0 + gV σ p1 p2 (σ 32 12 - 1).toNat (σ p1 3) (σ p2 3) (mHeat 0 (σ 35 0)) := a1
  have a6 := dpB_b (w1 := σ p1 3) (w2 := σ p2 3) (hot := σ 32 9) (g := σ 35 0) (q := gQ σ p1 p2 0) (V := gV σ p1 p2 (σ 32 12 - 1).toNat) (fun e => by have := q 0 e; omega) (fun x y h => (dpV_b (fun k e => by have := q k e; omega) hpz.1 _ x y h).1) (σ p1 3) (σ p2 3) 0
  have a7 : 0 ≤ gB σ p1 p2 := a6.1
  omega
def kTh (σ : zS) (f r : Int) : Prop := σ (40 + f) 0 = 1 ∧ σ (40 + r) 0 = 1
def kPr (σ : zS) (ct fo le : Int) : Prop := (fo = -6 ∧ le = -6 ∧ ∀ f r : Int, 0 ≤ f → f < r → r ≤ 3 → 4 * f + r < ct → ¬ kTh σ f r) ∨ (∃ f r : Int, (0 ≤ f ∧ f < r ∧ r ≤ 3) ∧ kTh σ f r ∧ 4 * f + r < ct ∧ fo = 10 * f + r ∧ le = gB σ (40 + f) (40 + r) ∧ ∀ f' r' : Int, 0 ≤ f' → f' < r' → r' ≤ 3 → kTh σ f' r' → 4 * f' + r' < ct → le ≤ gB σ (40 + f') (40 + r') ∧ (4 * f' + r' < 4 * f + r → le < gB σ (40 + f') (40 + r')))
theorem kPr_u {σ : zS} {f fo le : Int} (h : kPr σ (4 * f) fo le) (hf : 0 ≤ f ∧ f ≤ 3) : kPr σ (4 * f + (f + 1)) fo le := by
  rcases h with ⟨h1, h2, h3⟩ | ⟨g, s, a1, a2, a3, a4, a5, a6⟩
  · exact Or.inl ⟨h1, h2, fun f' r' b1 b2 b3 b4 => h3 f' r' b1 b2 b3 (by omega)⟩
  · exact Or.inr ⟨g, s, a1, a2, by omega, a4, a5, fun f' r' b1 b2 b3 b4 b5 => a6 f' r' b1 b2 b3 b4 (by omega)⟩
theorem kPr_n {σ : zS} {f r fo le : Int} (hf : 0 ≤ f ∧ f < r ∧ r ≤ 3) (h : kPr σ (4 * f + r) fo le) (hn : kTh σ f r → 0 ≤ fo ∧ ¬ gB σ (40 + f) (40 + r) < le) : kPr σ (4 * f + (r + 1)) fo le := by
  rcases h with ⟨h1, h2, h3⟩ | ⟨g, s, a1, a2, a3, a4, a5, a6⟩
  · refine Or.inl ⟨h1, h2, fun f' r' b1 b2 b3 b4 b5 => ?_⟩
    by_cases hc : 4 * f' + r' < 4 * f + r
    · exact h3 f' r' b1 b2 b3 hc b5
    · have e1 : f' = f := by omega
      have e2 : r' = r := by omega
      subst e1 e2
      have := hn b5
      omega
  · refine Or.inr ⟨g, s, a1, a2, by omega, a4, a5, fun f' r' b1 b2 b3 b4 b5 => ?_⟩
    by_cases hc : 4 * f' + r' < 4 * f + r
    · exact a6 f' r' b1 b2 b3 b4 hc
    · have e1 : f' = f := by omega
      have e2 : r' = r := by omega
      subst e1 e2
      have := hn b4
      exact ⟨by omega, fun _ => by omega⟩
theorem kPr_y {σ : zS} {f r fo le fo2 le2 : Int} (hf : 0 ≤ f ∧ f < r ∧ r ≤ 3) (h : kPr σ (4 * f + r) fo le) (hv : kTh σ f r) (hs : fo = -6 ∨ gB σ (40 + f) (40 + r) < le) (e1 : fo2 = 10 * f + r) (e2 : le2 = gB σ (40 + f) (40 + r)) : kPr σ (4 * f + (r + 1)) fo2 le2 := by
  subst e1 e2
  refine Or.inr ⟨f, r, hf, hv, by omega, rfl, rfl, fun f' r' b1 b2 b3 b4 b5 => ?_⟩
  by_cases hc : 4 * f' + r' < 4 * f + r
  · rcases h with ⟨h1, h2, h3⟩ | ⟨g, s, a1, a2, a3, a4, a5, a6⟩
    · exact absurd b4 (h3 f' r' b1 b2 b3 hc)
    · have := a6 f' r' b1 b2 b3 b4 hc
      have : 0 ≤ fo := by omega
      exact ⟨by omega, fun _ => by omega⟩
  · have e1 : f' = f := by omega
    have e2 : r' = r := by omega
    subst e1 e2
    exact ⟨Int.le_refl _, fun q => by omega⟩

set_option maxRecDepth 20000 in
set_option maxHeartbeats 4000000 in
theorem c_X7_bestPair {l : Launch} {D : va_G} {Y : Nat → ClassId} {a : Int → Nat} (hI : zI a) (σ : zS) (wh : Int) (r1 : R3 wh) (hth : ∀ r : Int, 0 ≤ r → r ≤ 3 → σ (40 + r) 0 = 0 ∨ σ (40 + r) 0 = 1) (hrd : ∀ r : Int, 0 ≤ r → r ≤ 3 → (0 ≤ σ (40 + r) 1 ∧ σ (40 + r) 1 ≤ 20) ∧ (0 ≤ σ (40 + r) 2 ∧ σ (40 + r) 2 ≤ 10) ∧ (0 ≤ σ (40 + r) 3 ∧ σ (40 + r) 3 ≤ 9) ∧ (0 ≤ σ (40 + r) 4 ∧ σ (40 + r) 4 ≤ 50)) (hn : 1 ≤ σ 32 12 ∧ σ 32 12 ≤ 24) (hg : ∀ i : Int, 0 ≤ i → i < 24 → -1 ≤ σ 35 i ∧ σ 35 i ≤ 6) (hho : 5 ≤ σ 32 9 ∧ σ 32 9 ≤ 20) (hpz : 0 ≤ σ 32 10 ∧ σ 32 10 ≤ 99) (hbf : kBf σ) : zMet l yX7_bestPair cX7_bestPair 6 (some .int) 5 (zPc D Y a σ [.ref (a 0), .int (iI wh)]) (zQi D Y a (fun r τ => (¬ (0 ≤ wh ∧ wh ≤ 1) → r = -2) ∧ (0 ≤ wh ∧ wh ≤ 1 → ∃ fo le : Int, kPr σ 16 fo le ∧ r = if wh = 0 then fo else le) ∧ (∀ c : Int, c < 15 ∨ 22 < c → τ c = σ c) ∧ kBf τ ∧ τ 15 10 = σ 15 10 ∧ τ 15 11 = σ 15 11)) (inA a) := by
  refine z_start rfl (Nat.le_of_ble_eq_true rfl) hI ?_
  intro p e s m below meth c ls C hr hlocks hl hP
  have hS : va_S (inA a) s.heap s.heap [] := va_S.rf
  have hl : lv_has ls 6 [(0, .ref (a 0)), (1, .int (iI wh))] := hl
  skip
  refine z_iload_n C hl 1 rfl dX7_bestPair_0 ?_
  refine z_iconst C dX7_bestPair_1 ?_
  refine z_iconst C dX7_bestPair_2 ?_
  refine z_sSi C hP (As := [.int (iI wh), .int (iI 0), .int (iI 1)]) lk_X7_52 (c_X7_isWithin hI σ wh 0 1 r1 ⟨by decide, by decide⟩ ⟨by decide, by decide⟩) rfl hl.1 rfl (Nat.le_of_ble_eq_true rfl) ⟨Nat.le_of_ble_eq_true rfl, Nat.le_of_ble_eq_true rfl⟩ ⟨Nat.zero_le _, Nat.zero_le _⟩ dX7_bestPair_3 ?_
  by_cases b_3 : 0 ≤ wh ∧ wh ≤ 1
  · rw [show (if 0 ≤ wh ∧ wh ≤ 1 then (1 : Int) else 0) = 1 from if_pos b_3]
    refine z_ifT_ne C 12 dX7_bestPair_6 (by decide) ⟨by decide, by decide⟩ (by decide) ?_
    refine z_bipush C (by decide +kernel) dX7_bestPair_12 ?_
    refine z_istore_n C [1, 2, 0] [(0, .ref (a 0)), (1, .int (iI wh)), (2, .int (iI (-6)))] hl (by decide) rfl dX7_bestPair_14 (fun ls hl => ?_)
    refine z_bipush C (by decide +kernel) dX7_bestPair_15 ?_
    refine z_istore_n C [1, 2, 3, 0] [(0, .ref (a 0)), (1, .int (iI wh)), (2, .int (iI (-6))), (3, .int (iI (-6)))] hl (by decide) rfl dX7_bestPair_17 (fun ls hl => ?_)
    refine z_iconst C dX7_bestPair_18 ?_
    refine z_istore C [1, 2, 3, 4, 0] [(0, .ref (a 0)), (1, .int (iI wh)), (2, .int (iI (-6))), (3, .int (iI (-6))), (4, .int (iI 0))] hl (by decide) rfl dX7_bestPair_19 (fun ls hl => ?_)
    have L_21 : ∀ (n : Nat) (fo : Int) (le : Int) (f0 : Int) (τ : zS) (H : Heap) (locs : List Loc) (hP : GP D Y a τ H) (hS : va_S (inA a) s.heap H locs) (ls : Array Slot), (0 ≤ f0 ∧ f0 ≤ 4) → (∀ c : Int, c < 15 ∨ 22 < c → τ c = σ c) → (kBf τ) → (τ 15 10 = σ 15 10 ∧ τ 15 11 = σ 15 11) → (kPr σ (4 * f0) fo le) → ((fo = -6 ∨ 0 ≤ fo) ∧ fo ≤ 33) → (-6 ≤ le ∧ le ≤ 9000) → ((4 - f0).toNat) < n → lv_has ls 6 [(0, .ref (a 0)), (1, .int (iI wh)), (2, .int (iI fo)), (3, .int (iI le)), (4, .int (iI f0))] → W p l e (zR 5) s m ([.ref (a 0), .int (iI wh)] : List Value).toArray below meth c H locs 0 0 (MQ below (zQi D Y a (fun r τ => (¬ (0 ≤ wh ∧ wh ≤ 1) → r = -2) ∧ (0 ≤ wh ∧ wh ≤ 1 → ∃ fo le : Int, kPr σ 16 fo le ∧ r = if wh = 0 then fo else le) ∧ (∀ c : Int, c < 15 ∨ 22 < c → τ c = σ c) ∧ kBf τ ∧ τ 15 10 = σ 15 10 ∧ τ 15 11 = σ 15 11)) ([.ref (a 0), .int (iI wh)] : List Value).toArray s 0 0 (inA a)) (F0 m 21 ls []) := by
      intro n
      induction n with
      | zero =>
        intros; omega
      | succ n ih_21 =>
        intro fo le f0 τ H locs hP hS ls jf fτ bτ xτ ip ix iy hm hl
        refine z_iload C hl 4 rfl dX7_bestPair_21 ?_
        refine z_iconst C dX7_bestPair_23 ?_
        refine z_icmp_ge C 143 dX7_bestPair_24 (by decide) ⟨by omega, by omega⟩ ⟨by omega, by omega⟩ (fun c_24 => ?_) (fun c_24 => ?_)
        · refine z_iload_n C hl 1 rfl dX7_bestPair_143 ?_
          refine z_if_ne C 151 dX7_bestPair_144 (by decide) ⟨by omega, by omega⟩ (fun c_144 => ?_) (fun c_144 => ?_)
          · refine z_iload_n C hl 3 rfl dX7_bestPair_151 ?_
            exact z_retQi C hP hS hr hlocks rfl (by exact ⟨fun h => absurd b_3 h, fun _ => ⟨fo, le, (by rw [show (16 : Int) = 4 * f0 from (by omega)]; exact ip), (by first | (rw [if_pos (by omega)]; done) | (rw [if_neg (by omega)]; done))⟩, fτ, bτ, xτ⟩) dX7_bestPair_152
          · refine z_iload_n C hl 2 rfl dX7_bestPair_147 ?_
            refine z_goto C 152 dX7_bestPair_148 (by decide) ?_
            exact z_retQi C hP hS hr hlocks rfl (by exact ⟨fun h => absurd b_3 h, fun _ => ⟨fo, le, (by rw [show (16 : Int) = 4 * f0 from (by omega)]; exact ip), (by first | (rw [if_pos (by omega)]; done) | (rw [if_neg (by omega)]; done))⟩, fτ, bτ, xτ⟩) dX7_bestPair_152
        · refine z_iload C hl 4 rfl dX7_bestPair_27 ?_
          refine z_iconst C dX7_bestPair_29 ?_
          refine z_iadd C dX7_bestPair_30 ?_
          refine z_topi (fun x1 hx1 => ?_)
          refine z_istore C [1, 2, 3, 4, 5, 0] [(0, .ref (a 0)), (1, .int (iI wh)), (2, .int (iI fo)), (3, .int (iI le)), (4, .int (iI f0)), (5, .int (iI x1))] hl (by decide) rfl dX7_bestPair_31 (fun ls hl => ?_)
          have L_33 : ∀ (n : Nat) (fo : Int) (le : Int) (s0 : Int) (τ : zS) (H : Heap) (locs : List Loc) (hP : GP D Y a τ H) (hS : va_S (inA a) s.heap H locs) (ls : Array Slot), (f0 + 1 ≤ s0 ∧ s0 ≤ 4) → (∀ c : Int, c < 15 ∨ 22 < c → τ c = σ c) → (kBf τ) → (τ 15 10 = σ 15 10 ∧ τ 15 11 = σ 15 11) → (kPr σ (4 * f0 + s0) fo le) → ((fo = -6 ∨ 0 ≤ fo) ∧ fo ≤ 33) → (-6 ≤ le ∧ le ≤ 9000) → ((4 - s0).toNat) < n → lv_has ls 6 [(0, .ref (a 0)), (1, .int (iI wh)), (2, .int (iI fo)), (3, .int (iI le)), (4, .int (iI f0)), (5, .int (iI s0))] → W p l e (zR 5) s m ([.ref (a 0), .int (iI wh)] : List Value).toArray below meth c H locs 0 0 (MQ below (zQi D Y a (fun r τ => (¬ (0 ≤ wh ∧ wh ≤ 1) → r = -2) ∧ (0 ≤ wh ∧ wh ≤ 1 → ∃ fo le : Int, kPr σ 16 fo le ∧ r = if wh = 0 then fo else le) ∧ (∀ c : Int, c < 15 ∨ 22 < c → τ c = σ c) ∧ kBf τ ∧ τ 15 10 = σ 15 10 ∧ τ 15 11 = σ 15 11)) ([.ref (a 0), .int (iI wh)] : List Value).toArray s 0 0 (inA a)) (F0 m 33 ls []) := by
            intro n
            induction n with
            | zero =>
              intros; omega
            | succ n ih_33 =>
              intro fo le s0 τ H locs hP hS ls jr fτ bτ xτ ip ix iy hm hl
              refine z_iload C hl 5 rfl dX7_bestPair_33 ?_
              refine z_iconst C dX7_bestPair_35 ?_
              refine z_icmp_ge C 137 dX7_bestPair_36 (by decide) ⟨by omega, by omega⟩ ⟨by omega, by omega⟩ (fun c_36 => ?_) (fun c_36 => ?_)
              · refine z_iinc C 4 [1, 2, 3, 4, 0, 5] [(0, .ref (a 0)), (1, .int (iI wh)), (2, .int (iI fo)), (3, .int (iI le)), (4, .int (iI (f0 + 1))), (5, .int (iI s0))] hl rfl (by decide) rfl dX7_bestPair_137 (fun ls hl => ?_)
                refine z_goto C 21 dX7_bestPair_140 (by decide) ?_
                exact ih_21 fo le (f0 + 1) τ H locs hP hS ls (by omega) (by exact fτ) (by exact bτ) (by exact xτ) (by rw [show 4 * (f0 + 1) = 4 * f0 + s0 from (by omega)]; exact ip) (by omega) (by omega) (by omega) (lv_sub hl [0, 1, 2, 3, 4] rfl)
              · refine z_aload_n C hl 0 rfl dX7_bestPair_39 ?_
                refine zg_X7_12 C hP dX7_bestPair_40 ?_
                refine z_iload C hl 4 rfl dX7_bestPair_43 ?_
                refine z_vSi C hP (As := [.int (iI f0)]) lk_X7_70 (c_X6_isThere hI τ f0 ⟨by omega, by omega⟩ (fun r h1 h2 => by rw [fτ (40 + r) (by omega)]; exact hth r h1 h2)) (ob_set (by unfold zSet; omega)) rfl rfl rfl hl.1 rfl (Nat.le_of_ble_eq_true rfl) ⟨Nat.le_of_ble_eq_true rfl, Nat.le_of_ble_eq_true rfl⟩ ⟨Nat.zero_le _, Nat.zero_le _⟩ dX7_bestPair_45 ?_
                by_cases b_45 : 0 ≤ f0 ∧ f0 ≤ 3 ∧ τ (40 + f0) 0 = 1
                · rw [show (if 0 ≤ f0 ∧ f0 ≤ 3 ∧ τ (40 + f0) 0 = 1 then (1 : Int) else 0) = 1 from if_pos b_45]
                  refine z_ifF_eq C 131 dX7_bestPair_48 (by decide) ⟨by decide, by decide⟩ (by decide) ?_
                  refine z_aload_n C hl 0 rfl dX7_bestPair_51 ?_
                  refine zg_X7_12 C hP dX7_bestPair_52 ?_
                  refine z_iload C hl 5 rfl dX7_bestPair_55 ?_
                  refine z_vSi C hP (As := [.int (iI s0)]) lk_X7_70 (c_X6_isThere hI τ s0 ⟨by omega, by omega⟩ (fun r h1 h2 => by rw [fτ (40 + r) (by omega)]; exact hth r h1 h2)) (ob_set (by unfold zSet; omega)) rfl rfl rfl hl.1 rfl (Nat.le_of_ble_eq_true rfl) ⟨Nat.le_of_ble_eq_true rfl, Nat.le_of_ble_eq_true rfl⟩ ⟨Nat.zero_le _, Nat.zero_le _⟩ dX7_bestPair_57 ?_
                  by_cases b_57 : 0 ≤ s0 ∧ s0 ≤ 3 ∧ τ (40 + s0) 0 = 1
                  · rw [show (if 0 ≤ s0 ∧ s0 ≤ 3 ∧ τ (40 + s0) 0 = 1 then (1 : Int) else 0) = 1 from if_pos b_57]
                    refine z_ifT_ne C 66 dX7_bestPair_60 (by decide) ⟨by decide, by decide⟩ (by decide) ?_
                    refine z_aload_n C hl 0 rfl dX7_bestPair_66 ?_
                    refine zg_X7_48 C hP dX7_bestPair_67 ?_
                    refine z_aload_n C hl 0 rfl dX7_bestPair_70 ?_
                    refine zg_X7_12 C hP dX7_bestPair_71 ?_
                    refine z_aload_n C hl 0 rfl dX7_bestPair_74 ?_
                    refine zg_X7_12 C hP dX7_bestPair_75 ?_
                    refine zg32_X7_56 C hP dX7_bestPair_78 ?_
                    refine z_iload C hl 4 rfl dX7_bestPair_81 ?_
                    refine z_aldR32 C hP ⟨by omega, by omega⟩ dX7_bestPair_83 ?_
                    refine z_aload_n C hl 0 rfl dX7_bestPair_84 ?_
                    refine zg_X7_12 C hP dX7_bestPair_85 ?_
                    refine zg32_X7_56 C hP dX7_bestPair_88 ?_
                    refine z_iload C hl 5 rfl dX7_bestPair_91 ?_
                    refine z_aldR32 C hP ⟨by omega, by omega⟩ dX7_bestPair_93 ?_
                    refine z_vQv hS C hP (As := [.ref (a 32), .ref (a (40 + f0)), .ref (a (40 + s0))]) lk_X7_178 (c_X5_seek hI τ (40 + f0) (40 + s0) ⟨by omega, by omega⟩ ⟨by omega, by omega⟩ (by rw [fτ 32 (by omega)]; exact hn) (by rw [fτ 35 (by omega)]; exact hg) (fun r h1 h2 => by rw [fτ (40 + r) (by omega)]; exact hrd r h1 h2) (by rw [fτ 32 (by omega)]; exact hho) (by rw [fτ 32 (by omega)]; exact hpz) bτ) ob_15 rfl rfl rfl hl.1 rfl (Nat.le_of_ble_eq_true rfl) ⟨Nat.le_of_ble_eq_true rfl, Nat.le_of_ble_eq_true rfl⟩ ⟨Nat.zero_le _, Nat.zero_le _⟩ dX7_bestPair_94 (fun t3 H locs hp94 hP hS => ?_)
                    have xt3 : t3 15 10 = σ 15 10 ∧ t3 15 11 = σ 15 11 := ⟨hp94.2.2.1.1.trans xτ.1, hp94.2.2.1.2.trans xτ.2⟩
                    have ft3 : ∀ c : Int, c < 15 ∨ 22 < c → t3 c = σ c := fun c hc => by rw [hp94.1 c hc, fτ c hc]
                    have hgb : t3 15 0 = gB σ (40 + f0) (40 + s0) := by obtain ⟨q1, q2, _, ρ, q3, q4, _⟩ := hp94; rw [q4, kSk_B (by omega) (by omega) q3, gB_c (by omega) (by omega) fτ]
                    have hgr := gB_b (σ := σ) (p1 := 40 + f0) (p2 := 40 + s0) (hrd f0 (by omega) (by omega)).2.2.1.1 (hrd s0 (by omega) (by omega)).2.2.1.1 hho.1 hpz hn
                    have hv : kTh σ f0 s0 := ⟨by rw [← fτ (40 + f0) (by omega)]; exact b_45.2.2, by rw [← fτ (40 + s0) (by omega)]; exact b_57.2.2⟩
                    refine z_iload_n C hl 2 rfl dX7_bestPair_97 ?_
                    refine z_bipush C (by decide +kernel) dX7_bestPair_98 ?_
                    refine z_icmp_eq C 114 dX7_bestPair_100 (by decide) ⟨by omega, by omega⟩ ⟨by omega, by omega⟩ (fun c_100 => ?_) (fun c_100 => ?_)
                    · refine z_bipush C (by decide +kernel) dX7_bestPair_114 ?_
                      refine z_iload C hl 4 rfl dX7_bestPair_116 ?_
                      refine z_imul C dX7_bestPair_118 ?_
                      refine z_iload C hl 5 rfl dX7_bestPair_119 ?_
                      refine z_iadd C dX7_bestPair_121 ?_
                      refine z_topi (fun x4 hx4 => ?_)
                      refine z_istore_n C [1, 2, 0, 3, 4, 5] [(0, .ref (a 0)), (1, .int (iI wh)), (2, .int (iI x4)), (3, .int (iI le)), (4, .int (iI f0)), (5, .int (iI s0))] hl (by decide) rfl dX7_bestPair_122 (fun ls hl => ?_)
                      refine z_aload_n C hl 0 rfl dX7_bestPair_123 ?_
                      refine zg_X7_48 C hP dX7_bestPair_124 ?_
                      refine zg_X7_182 C hP dX7_bestPair_127 ?_
                      refine z_topi (fun x5 hx5 => ?_)
                      refine z_istore_n C [1, 2, 3, 0, 4, 5] [(0, .ref (a 0)), (1, .int (iI wh)), (2, .int (iI x4)), (3, .int (iI x5)), (4, .int (iI f0)), (5, .int (iI s0))] hl (by decide) rfl dX7_bestPair_130 (fun ls hl => ?_)
                      refine z_iinc C 5 [1, 2, 3, 4, 5, 0] [(0, .ref (a 0)), (1, .int (iI wh)), (2, .int (iI x4)), (3, .int (iI x5)), (4, .int (iI f0)), (5, .int (iI (s0 + 1)))] hl rfl (by decide) rfl dX7_bestPair_131 (fun ls hl => ?_)
                      refine z_goto C 33 dX7_bestPair_134 (by decide) ?_
                      exact ih_33 x4 x5 (s0 + 1) t3 H locs hP hS ls (by omega) (by first | exact ft3 | exact fτ) (by first | exact hp94.2.1 | exact bτ) (by first | exact xt3 | exact xτ) (by first | exact kPr_y (f := f0) (r := s0) (by omega) ip hv (by omega) (by omega) (by omega) | exact kPr_n (by omega) ip (fun _ => (by omega)) | exact kPr_n (by omega) ip (fun q => absurd ⟨(by omega), (by omega), (by rw [fτ (40 + f0) (by omega)]; exact q.1)⟩ b_45) | exact kPr_n (by omega) ip (fun q => absurd ⟨(by omega), (by omega), (by rw [fτ (40 + s0) (by omega)]; exact q.2)⟩ b_57)) (by omega) (by omega) (by omega) (lv_sub hl [0, 1, 2, 3, 4, 5] rfl)
                    · refine z_aload_n C hl 0 rfl dX7_bestPair_103 ?_
                      refine zg_X7_48 C hP dX7_bestPair_104 ?_
                      refine zg_X7_182 C hP dX7_bestPair_107 ?_
                      refine z_iload_n C hl 3 rfl dX7_bestPair_110 ?_
                      refine z_icmp_ge C 131 dX7_bestPair_111 (by decide) ⟨by omega, by omega⟩ ⟨by omega, by omega⟩ (fun c_111 => ?_) (fun c_111 => ?_)
                      · refine z_iinc C 5 [1, 2, 3, 4, 5, 0] [(0, .ref (a 0)), (1, .int (iI wh)), (2, .int (iI fo)), (3, .int (iI le)), (4, .int (iI f0)), (5, .int (iI (s0 + 1)))] hl rfl (by decide) rfl dX7_bestPair_131 (fun ls hl => ?_)
                        refine z_goto C 33 dX7_bestPair_134 (by decide) ?_
                        exact ih_33 fo le (s0 + 1) t3 H locs hP hS ls (by omega) (by first | exact ft3 | exact fτ) (by first | exact hp94.2.1 | exact bτ) (by first | exact xt3 | exact xτ) (by first | exact kPr_y (f := f0) (r := s0) (by omega) ip hv (by omega) (by omega) (by omega) | exact kPr_n (by omega) ip (fun _ => (by omega)) | exact kPr_n (by omega) ip (fun q => absurd ⟨(by omega), (by omega), (by rw [fτ (40 + f0) (by omega)]; exact q.1)⟩ b_45) | exact kPr_n (by omega) ip (fun q => absurd ⟨(by omega), (by omega), (by rw [fτ (40 + s0) (by omega)]; exact q.2)⟩ b_57)) (by omega) (by omega) (by omega) (lv_sub hl [0, 1, 2, 3, 4, 5] rfl)
                      · refine z_bipush C (by decide +kernel) dX7_bestPair_114 ?_
                        refine z_iload C hl 4 rfl dX7_bestPair_116 ?_
                        refine z_imul C dX7_bestPair_118 ?_
                        refine z_iload C hl 5 rfl dX7_bestPair_119 ?_
                        refine z_iadd C dX7_bestPair_121 ?_
                        refine z_topi (fun x6 hx6 => ?_)
                        refine z_istore_n C [1, 2, 0, 3, 4, 5] [(0, .ref (a 0)), (1, .int (iI wh)), (2, .int (iI x6)), (3, .int (iI le)), (4, .int (iI f0)), (5, .int (iI s0))] hl (by decide) rfl dX7_bestPair_122 (fun ls hl => ?_)
                        refine z_aload_n C hl 0 rfl dX7_bestPair_123 ?_
                        refine zg_X7_48 C hP dX7_bestPair_124 ?_
                        refine zg_X7_182 C hP dX7_bestPair_127 ?_
                        refine z_topi (fun x7 hx7 => ?_)
                        refine z_istore_n C [1, 2, 3, 0, 4, 5] [(0, .ref (a 0)), (1, .int (iI wh)), (2, .int (iI x6)), (3, .int (iI x7)), (4, .int (iI f0)), (5, .int (iI s0))] hl (by decide) rfl dX7_bestPair_130 (fun ls hl => ?_)
                        refine z_iinc C 5 [1, 2, 3, 4, 5, 0] [(0, .ref (a 0)), (1, .int (iI wh)), (2, .int (iI x6)), (3, .int (iI x7)), (4, .int (iI f0)), (5, .int (iI (s0 + 1)))] hl rfl (by decide) rfl dX7_bestPair_131 (fun ls hl => ?_)
                        refine z_goto C 33 dX7_bestPair_134 (by decide) ?_
                        exact ih_33 x6 x7 (s0 + 1) t3 H locs hP hS ls (by omega) (by first | exact ft3 | exact fτ) (by first | exact hp94.2.1 | exact bτ) (by first | exact xt3 | exact xτ) (by first | exact kPr_y (f := f0) (r := s0) (by omega) ip hv (by omega) (by omega) (by omega) | exact kPr_n (by omega) ip (fun _ => (by omega)) | exact kPr_n (by omega) ip (fun q => absurd ⟨(by omega), (by omega), (by rw [fτ (40 + f0) (by omega)]; exact q.1)⟩ b_45) | exact kPr_n (by omega) ip (fun q => absurd ⟨(by omega), (by omega), (by rw [fτ (40 + s0) (by omega)]; exact q.2)⟩ b_57)) (by omega) (by omega) (by omega) (lv_sub hl [0, 1, 2, 3, 4, 5] rfl)
                  · rw [show (if 0 ≤ s0 ∧ s0 ≤ 3 ∧ τ (40 + s0) 0 = 1 then (1 : Int) else 0) = 0 from if_neg b_57]
                    refine z_ifF_ne C 66 dX7_bestPair_60 (by decide) ⟨by decide, by decide⟩ (by decide) ?_
                    refine z_goto C 131 dX7_bestPair_63 (by decide) ?_
                    refine z_iinc C 5 [1, 2, 3, 4, 5, 0] [(0, .ref (a 0)), (1, .int (iI wh)), (2, .int (iI fo)), (3, .int (iI le)), (4, .int (iI f0)), (5, .int (iI (s0 + 1)))] hl rfl (by decide) rfl dX7_bestPair_131 (fun ls hl => ?_)
                    refine z_goto C 33 dX7_bestPair_134 (by decide) ?_
                    exact ih_33 fo le (s0 + 1) τ H locs hP hS ls (by omega) (by first | exact fτ | exact fτ) (by first | exact hp94.2.1 | exact bτ) (by first | exact xτ | exact xτ) (by first | exact kPr_y (f := f0) (r := s0) (by omega) ip hv (by omega) (by omega) (by omega) | exact kPr_n (by omega) ip (fun _ => (by omega)) | exact kPr_n (by omega) ip (fun q => absurd ⟨(by omega), (by omega), (by rw [fτ (40 + f0) (by omega)]; exact q.1)⟩ b_45) | exact kPr_n (by omega) ip (fun q => absurd ⟨(by omega), (by omega), (by rw [fτ (40 + s0) (by omega)]; exact q.2)⟩ b_57)) (by omega) (by omega) (by omega) (lv_sub hl [0, 1, 2, 3, 4, 5] rfl)
                · rw [show (if 0 ≤ f0 ∧ f0 ≤ 3 ∧ τ (40 + f0) 0 = 1 then (1 : Int) else 0) = 0 from if_neg b_45]
                  refine z_ifT_eq C 131 dX7_bestPair_48 (by decide) ⟨by decide, by decide⟩ (by decide) ?_
                  refine z_iinc C 5 [1, 2, 3, 4, 5, 0] [(0, .ref (a 0)), (1, .int (iI wh)), (2, .int (iI fo)), (3, .int (iI le)), (4, .int (iI f0)), (5, .int (iI (s0 + 1)))] hl rfl (by decide) rfl dX7_bestPair_131 (fun ls hl => ?_)
                  refine z_goto C 33 dX7_bestPair_134 (by decide) ?_
                  exact ih_33 fo le (s0 + 1) τ H locs hP hS ls (by omega) (by first | exact fτ | exact fτ) (by first | exact hp94.2.1 | exact bτ) (by first | exact xτ | exact xτ) (by first | exact kPr_y (f := f0) (r := s0) (by omega) ip hv (by omega) (by omega) (by omega) | exact kPr_n (by omega) ip (fun _ => (by omega)) | exact kPr_n (by omega) ip (fun q => absurd ⟨(by omega), (by omega), (by rw [fτ (40 + f0) (by omega)]; exact q.1)⟩ b_45) | exact kPr_n (by omega) ip (fun q => absurd ⟨(by omega), (by omega), (by rw [fτ (40 + s0) (by omega)]; exact q.2)⟩ b_57)) (by omega) (by omega) (by omega) (lv_sub hl [0, 1, 2, 3, 4, 5] rfl)
          exact L_33 _ fo le x1 τ _ _ hP hS ls (by omega) (by exact fτ) (by exact bτ) (by exact xτ) (by have q := kPr_u ip (by omega); rw [show f0 + 1 = x1 from (by omega)] at q; exact q) (by omega) (by omega) (Nat.lt_succ_self _) (lv_sub hl [0, 1, 2, 3, 4, 5] rfl)
    exact L_21 _ (-6) (-6) 0 σ _ _ hP hS ls (by omega) (by intro c hc; rfl) (by exact hbf) (by exact ⟨rfl, rfl⟩) (by exact Or.inl ⟨rfl, rfl, fun f r a1 a2 a3 a4 => (by exfalso; omega)⟩) (by omega) (by omega) (Nat.lt_succ_self _) (lv_sub hl [0, 1, 2, 3, 4] rfl)
  · rw [show (if 0 ≤ wh ∧ wh ≤ 1 then (1 : Int) else 0) = 0 from if_neg b_3]
    refine z_ifF_ne C 12 dX7_bestPair_6 (by decide) ⟨by decide, by decide⟩ (by decide) ?_
    refine z_bipush C (by decide +kernel) dX7_bestPair_9 ?_
    exact z_retQi C hP hS hr hlocks rfl (by exact ⟨fun _ => rfl, fun h => absurd h b_3, fun _ _ => rfl, hbf, rfl, rfl⟩) dX7_bestPair_11
