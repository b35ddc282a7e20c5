theorem st_sorts {σ υ : zS} {r2 : Int} (h : jInv σ) (ef : Int) (q : (¬ (mBit (σ 100 0) (σ 100 5) = 1 ∧ mBit (σ 100 0) (σ 100 6) = 1 ∧ σ 100 5 ≠ σ 100 6) → r2 = -3) ∧ (mBit (σ 100 0) (σ 100 5) = 1 ∧ mBit (σ 100 0) (σ 100 6) = 1 ∧ σ 100 5 ≠ σ 100 6 → ¬ (0 ≤ ef ∧ ef ≤ 4) → r2 = -2) ∧ (mBit (σ 100 0) (σ 100 5) = 1 ∧ mBit (σ 100 0) (σ 100 6) = 1 ∧ σ 100 5 ≠ σ 100 6 → 0 ≤ ef ∧ ef ≤ 4 → r2 = mSum (jSrF σ ef) 5) ∧ (∀ c : Int, c ≠ 117 → υ c = σ c)) : (if σ (40 + σ 32 7) 0 = 1 ∧ σ (40 + σ 32 8) 0 = 1 then (if 0 ≤ ef ∧ ef ≤ 4 then mSorts (mMax7 (fun b => mTread (σ (40 + σ 32 7) 1) (σ (40 + σ 32 7) 2) ef b + mTread (σ (40 + σ 32 8) 1) (σ (40 + σ 32 8) 2) ef b)) (max (ef * σ (40 + σ 32 7) 1) (ef * σ (40 + σ 32 8) 1)) else -2) else -3) = r2 ∧ jInv υ := by
  have se := iv_se h
  have o := h.1.2.1
  have e := iv_sc h
  have f := iv_fr h
  have fr := q.2.2.2
  refine ⟨?_, jInv_f h (fun c hc => fr c (by omega)) (fun j _ _ => by rw [fr 100 (by decide)]) (kBf_c h.2.2.2.2.2.2.1 (by rw [fr 15 (by decide)]; exact ⟨rfl, rfl⟩) (fr 21 (by decide)) (fr 22 (by decide))) (by unfold kCb; rw [fr 15 (by decide)]; exact h.2.2.2.2.2.2.2.1) (by unfold jBd; rw [fr 115 (by decide)]; exact h.2.2.2.2.2.2.2.2)⟩
  by_cases c1 : σ (40 + σ 32 7) 0 = 1 ∧ σ (40 + σ 32 8) 0 = 1
  · have d1 := se.1 c1
    rw [if_pos c1]
    by_cases c2 : 0 ≤ ef ∧ ef ≤ 4
    · rw [if_pos c2, q.2.2.1 d1 c2]
      exact mSum_c (fun i a b => by
        have hc := jChr_g (i := i) ⟨a, by omega⟩
        have hh := mHard_b i
        unfold mSortF jSrF
        rw [jQk_eq, hc, iv_Al h (by omega) (by omega), iv_Al h (by omega) (by omega), ← mSec_max (by omega), hc, show 6 * ef / 5 = ef by omega, show 6 * ef % 5 = ef by omega, f.1.1, f.1.2.1, f.2.1, f.2.2.1, e.1, e.2.1])
    · rw [if_neg c2, q.2.1 d1 c2]
  · rw [if_neg c1, q.1 (fun z => c1 (se.2 z))]
theorem gQ_j {σ : zS} (h : jInv σ) {f r k e : Int} (hf : 0 ≤ f ∧ f ≤ 3) (hr : 0 ≤ r ∧ r ≤ 3) (hk : 0 ≤ k ∧ k < σ 32 12) : jQk σ f r (σ 105 k) e = gQ σ (40 + f) (40 + r) k e := by
  have e1 := h.2.2.1.1 f hf.1 hf.2
  have e2 := h.2.2.1.1 r hr.1 hr.2
  unfold gQ gPT
  rw [jQk_eq, iv_gr h hk.1 hk.2, e1.1, e1.2.1, e2.1, e2.2.1]
theorem gV_j {σ : zS} (h : jInv σ) {f r : Int} (hf : 0 ≤ f ∧ f ≤ 3) (hr : 0 ≤ r ∧ r ≤ 3) : jV σ f r (σ 100 11 - 1).toNat = gV σ (40 + f) (40 + r) (σ 32 12 - 1).toNat := by
  have e1 := h.2.2.1.1 f hf.1 hf.2
  have e2 := h.2.2.1.1 r hr.1 hr.2
  have e := iv_sc h
  have o := pk_hn h
  unfold jV gV
  rw [e1.2.2.1, e2.2.2.1, e.2.2.1, e.2.2.2.1, e.2.2.2.2.2.1]
  exact dpV_c (fun k x a b _ _ => gQ_j h hf hr ⟨by omega, b⟩) (fun k a b => iv_gr h (by omega) b)
theorem gB_j {σ : zS} (h : jInv σ) {f r : Int} (hf : 0 ≤ f ∧ f ≤ 3) (hr : 0 ≤ r ∧ r ≤ 3) : jB0 σ f r = gB σ (40 + f) (40 + r) := by
  have e1 := h.2.2.1.1 f hf.1 hf.2
  have e2 := h.2.2.1.1 r hr.1 hr.2
  have e := iv_sc h
  have o := pk_hn h
  unfold jB0 jBk gB
  rw [gV_j h hf hr, e1.2.2.1, e2.2.2.1, e.2.2.1, iv_gr h (by decide) (by omega)]
  exact dpB_c (fun x _ _ => gQ_j h hf hr ⟨by decide, by omega⟩) rfl
theorem jB0_d {σ τ : zS} (f : ∀ c : Int, 100 ≤ c → τ c = σ c) : jB0 τ = jB0 σ ∧ jQk τ = jQk σ ∧ jQf τ = jQf σ ∧ jW1 τ = jW1 σ := by
  have e1 : jQf τ = jQf σ := by
    funext a b c d i
    unfold jQf
    rw [f 101 (by decide), f 102 (by decide)]
  have e2 : jQk τ = jQk σ := by
    funext a b c d
    unfold jQk
    rw [e1]
  have e3 : jV τ = jV σ := by
    funext a b c
    unfold jV
    rw [e2, f 100 (by decide), f 103 (by decide), f 105 (by decide)]
  refine ⟨?_, e2, e1, ?_⟩
  · funext a b
    unfold jB0 jBk
    rw [e2, e3, f 100 (by decide), f 103 (by decide), f 105 (by decide)]
  · funext x
    unfold jW1
    rw [e2, e3, f 100 (by decide), f 103 (by decide), f 105 (by decide)]
theorem gB_r {σ : zS} (h : jInv σ) {f r : Int} (hf : 0 ≤ f ∧ f ≤ 3) (hr : 0 ≤ r ∧ r ≤ 3) : 0 ≤ gB σ (40 + f) (40 + r) ∧ gB σ (40 + f) (40 + r) ≤ 9000 := gB_b (pk_hrd h f hf.1 hf.2).2.2.1.1 (pk_hrd h r hr.1 hr.2).2.2.1.1 (pk_hho h).1 (pk_hpz h) (pk_hn h)
theorem fst_u {P : Int → Prop} {a b : Int} (a0 : 0 ≤ a) (pa : P a) (na : ∀ j : Int, 0 ≤ j → j < a → ¬ P j) (b0 : 0 ≤ b) (pb : P b) (nb : ∀ j : Int, 0 ≤ j → j < b → ¬ P j) : a = b := by
  rcases Int.lt_trichotomy a b with h | h | h
  · exact absurd pa (nb a a0 h)
  · exact h
  · exact absurd pb (na b b0 h)
theorem kCb_d {σ τ : zS} (h : kCb σ) (e : τ 15 10 = σ 15 10 ∧ τ 15 11 = σ 15 11) (f : ∀ c : Int, c < 15 ∨ 22 < c → τ c = σ c) : kCb τ := by
  unfold kCb
  rw [e.1, e.2]
  exact h
theorem iv_fin2 {σ τ υ : zS} (h : jInv σ) (f : ∀ c : Int, c < 15 ∨ 22 < c → τ c = σ c) (hb : kBf τ) (hc : kCb τ) (g : jG τ υ) (hd : jBd υ 115) : jInv υ := by
  have e : ∀ c : Int, (c < 15 ∨ 22 < c) → (c < 115 ∨ 117 < c) → υ c = σ c := fun c a b => by rw [g c b, f c a]
  exact jInv_f h (fun c hc => e c (by omega) (by omega)) (fun j _ _ => by rw [e 100 (by decide) (by decide)]) (kBf_c hb (by rw [g 15 (by decide)]; exact ⟨rfl, rfl⟩) (g 21 (by decide)) (g 22 (by decide))) (by unfold kCb; rw [g 15 (by decide)]; exact hc) hd
theorem st_soonest {σ τ υ : zS} {r1 r2 : Int} (h : jInv σ) (wh : Int) (p : (¬ (σ (40 + σ 32 7) 0 = 1 ∧ σ (40 + σ 32 8) 0 = 1) → r1 = -3) ∧ (σ (40 + σ 32 7) 0 = 1 ∧ σ (40 + σ 32 8) 0 = 1 → ¬ (0 ≤ wh ∧ wh ≤ 1) → r1 = -2) ∧ (σ (40 + σ 32 7) 0 = 1 ∧ σ (40 + σ 32 8) 0 = 1 → 0 ≤ wh ∧ wh ≤ 1 → ∃ ρ : zS, kSk σ ρ (40 + σ 32 7) (40 + σ 32 8) ∧ (wh = 0 → r1 = kB0 ρ) ∧ (wh = 1 → ∃ e b : Int, kFe ρ e ∧ kLb ρ (mHard (ρ 35 0)) (kQ ρ 0 e) (40 + σ 32 7) (40 + σ 32 8) e b ∧ r1 = 100 * (e / 5) + 10 * (e % 5) + b - 4)) ∧ (∀ c : Int, c < 15 ∨ 22 < c → τ c = σ c) ∧ kBf τ ∧ τ 15 10 = σ 15 10 ∧ τ 15 11 = σ 15 11) (q : (¬ (mBit (τ 100 0) (τ 100 5) = 1 ∧ mBit (τ 100 0) (τ 100 6) = 1 ∧ τ 100 5 ≠ τ 100 6) → r2 = -3) ∧ (mBit (τ 100 0) (τ 100 5) = 1 ∧ mBit (τ 100 0) (τ 100 6) = 1 ∧ τ 100 5 ≠ τ 100 6 → ¬ (0 ≤ wh ∧ wh ≤ 1) → r2 = -2) ∧ (mBit (τ 100 0) (τ 100 5) = 1 ∧ mBit (τ 100 0) (τ 100 6) = 1 ∧ τ 100 5 ≠ τ 100 6 → 0 ≤ wh ∧ wh ≤ 1 → (wh = 0 → r2 = jS0 τ (τ 100 5) (τ 100 6)) ∧ (wh = 1 → jB0 τ (τ 100 5) (τ 100 6) < 1000000 → ∃ e b : Int, jFe τ e b ∧ r2 = 100 * (e / 5) + 10 * (e % 5) + b)) ∧ jG τ υ ∧ jBd υ 115) : r1 = r2 ∧ jInv υ := by
  have f := p.2.2.2.1
  have f100 : ∀ c : Int, 100 ≤ c → τ c = σ c := fun c a => f c (by omega)
  have se := iv_se h
  have o := h.1.2.1
  have e := iv_sc h
  have d := jB0_d f100
  refine ⟨?_, iv_fin2 h f p.2.2.2.2.1 (kCb_d h.2.2.2.2.2.2.2.1 p.2.2.2.2.2 f) q.2.2.2.1 q.2.2.2.2⟩
  unfold jFe at q
  rw [f100 100 (by decide), f100 105 (by decide), d.1, d.2.1, d.2.2.1, d.2.2.2] at q
  by_cases c1 : σ (40 + σ 32 7) 0 = 1 ∧ σ (40 + σ 32 8) 0 = 1
  · have d1 := se.1 c1
    by_cases c2 : 0 ≤ wh ∧ wh ≤ 1
    · obtain ⟨ρ, k1, k2, k3⟩ := p.2.2.1 c1 c2
      have q3 := q.2.2.1 d1 c2
      have hB := kSk_B (by omega) (by omega) k1
      have hj := gB_j h (f := σ 100 5) (r := σ 100 6) (by omega) (by omega)
      rw [e.1, e.2.1] at hj
      have hr := gB_r h (f := σ 32 7) (r := σ 32 8) ⟨o.1.1, o.1.2⟩ ⟨o.2.1.1, o.2.1.2⟩
      by_cases c3 : wh = 0
      · rw [k2 c3, q3.1 c3, hB]
        unfold jS0
        rw [d.1, e.1, e.2.1, hj, if_pos (by omega)]
      · obtain ⟨x, b, x1, x2, x3⟩ := k3 (by omega)
        obtain ⟨y, b', ⟨⟨y1, y2, y3, y4⟩, y5, y6, y7, y8⟩, y9⟩ := q3.2 (by omega) (by rw [e.1, e.2.1, hj]; omega)
        have v := kSk_V (by omega) (by omega) k1
        have vj := gV_j h (f := σ 32 7) (r := σ 32 8) ⟨o.1.1, o.1.2⟩ ⟨o.2.1.1, o.2.1.2⟩
        have er1 := h.2.2.1.1 _ o.1.1 o.1.2
        have er2 := h.2.2.1.1 _ o.2.1.1 o.2.1.2
        have g0 := iv_gr h (i := 0) (by decide) (by omega)
        have kf : ∀ z : Int, 0 ≤ z → z < 25 → kF1 ρ z = jW1 σ z := fun z z1 z2 => by
          unfold kF1 jW1
          rw [v.1, v.2.1, k1.1 32 (by omega), k1.1 35 (by omega), v.2.2.1, e.1, e.2.1, vj, er1.2.2.1, er2.2.2.1, e.2.2.1, g0]
          unfold dpF
          rw [v.2.2.2.1 0 z z1 z2]
          show _ = if _ then (1000000 : Int) else jQk σ (σ 32 7) (σ 32 8) (σ 105 0) z + _
          rw [gQ_j h ⟨o.1.1, o.1.2⟩ ⟨o.2.1.1, o.2.1.2⟩ ⟨by decide, by omega⟩]
        rw [e.1, e.2.1, hj] at y3 y4
        unfold kFe at x1
        rw [hB] at x1
        have hxy : x = y := by
          rcases Int.lt_trichotomy x y with hl | hl | hl
          · exact absurd (by rw [← kf x x1.1.1 x1.1.2]; exact x1.2.1) (y4 x x1.1.1 hl)
          · exact hl
          · exact absurd (by rw [kf y y1 y2]; exact y3) (x1.2.2 y y1 hl)
        subst hxy
        have hq : kQ ρ 0 x = jQk σ (σ 32 7) (σ 32 8) (σ 105 0) x := by
          rw [v.2.2.2.1 0 x y1 y2, gQ_j h ⟨o.1.1, o.1.2⟩ ⟨o.2.1.1, o.2.1.2⟩ ⟨by decide, by omega⟩]
        have ht : ∀ i : Int, mSec (mHard (ρ 35 0)) (kTs ρ (40 + σ 32 7) (40 + σ 32 8) x (4 + i)) = jQf σ (σ 32 7) (σ 32 8) (σ 105 0) x i := fun i => by
          rw [v.2.2.2.2, k1.1 35 (by omega)]
          unfold jQf
          rw [g0, er1.1, er1.2.1, er2.1, er2.2.1]
        rw [e.1, e.2.1] at y7 y8
        obtain ⟨z1, z2, z3⟩ := x2
        rw [hq] at z2 z3
        have hb : b = 4 + b' := by
          rcases Int.lt_trichotomy b (4 + b') with hl | hl | hl
          · exfalso
            rcases z2 with z2 | z2
            · omega
            · have := ht (b - 4)
              rw [show 4 + (b - 4) = b by omega, z2] at this
              exact y8 (b - 4) (by omega) (by omega) this.symm
          · exact hl
          · exfalso
            exact z3 (4 + b') (by omega) hl (by rw [ht b']; exact y7)
        omega
    · rw [p.2.1 c1 c2, q.2.1 d1 c2]
  · rw [p.1 c1, q.1 (fun z => c1 (se.2 z))]
theorem mMnS_x {s : Int} {f g : Int → Int} {n : Nat} (h : ∀ i : Int, 0 ≤ i → i < n → ∃ j : Int, 0 ≤ j ∧ j < n ∧ f j ≤ g i) : mMnS s f n ≤ mMnS s g n := by
  rcases mMnS_at s g n with e | ⟨i, a, b, e⟩
  · rw [e]; exact mMnS_le s f n
  · obtain ⟨j, c, d, k⟩ := h i a b
    have := mMnS_lf s f n j c d
    omega
theorem dpB_w {w1 w2 hot g x y h : Int} {q q' : Int → Int} {V V' : Int → Int → Int → Int} (hq : ∀ e : Int, 0 ≤ e → e < 25 → q e = q' (5 * (e % 5) + e / 5)) (hV : ∀ x y h : Int, V x y h = V' y x h) : dpB w1 w2 hot q g V x y h = dpB w2 w1 hot q' g V' y x h := by
  have k : ∀ e : Int, 0 ≤ e → e < 25 → dpF w1 w2 hot q g V x y h e = dpF w2 w1 hot q' g V' y x h (5 * (e % 5) + e / 5) := fun e a b => by
    unfold dpF
    rw [show (5 * (e % 5) + e / 5) / 5 = e % 5 by omega, show (5 * (e % 5) + e / 5) % 5 = e / 5 by omega, hq e a b, hV]
    by_cases hc : mWind w1 x (e / 5) < 0 ∨ mWind w2 y (e % 5) < 0 ∨ hot < mHeat h g
    · rw [if_pos hc, if_pos (by omega)]
    · rw [if_neg hc, if_neg (by omega)]
  apply Int.le_antisymm
  · exact mMnS_x (fun i a b => ⟨5 * (i % 5) + i / 5, by omega, by omega, by
      rw [k (5 * (i % 5) + i / 5) (by omega) (by omega), show 5 * ((5 * (i % 5) + i / 5) % 5) + (5 * (i % 5) + i / 5) / 5 = i by omega]
      exact Int.le_refl _⟩)
  · exact mMnS_x (fun i a b => ⟨5 * (i % 5) + i / 5, by omega, by omega, by rw [← k i a (by omega)]; exact Int.le_refl _⟩)
theorem dpV_w {w1 w2 hot pz n : Int} {q q' : Int → Int → Int} {g : Int → Int} (hq : ∀ k e : Int, 0 ≤ e → e < 25 → q k e = q' k (5 * (e % 5) + e / 5)) : ∀ (m : Nat) (x y h : Int), dpV w1 w2 hot pz q g n m x y h = dpV w2 w1 hot pz q' g n m y x h
  | 0, _, _, _ => rfl
  | m + 1, x, y, h => by
    have ih := dpV_w (w1 := w1) (w2 := w2) (hot := hot) (pz := pz) (n := n) (g := g) hq m
    show min (dpB w1 w2 hot (q (n - 1 - m)) (g (n - 1 - m)) (dpV w1 w2 hot pz q g n m) x y h) (dpB w1 w2 hot (q (n - 1 - m)) (g (n - 1 - m)) (dpV w1 w2 hot pz q g n m) w1 w2 0 + pz) = min (dpB w2 w1 hot (q' (n - 1 - m)) (g (n - 1 - m)) (dpV w2 w1 hot pz q' g n m) y x h) (dpB w2 w1 hot (q' (n - 1 - m)) (g (n - 1 - m)) (dpV w2 w1 hot pz q' g n m) w2 w1 0 + pz)
    rw [dpB_w (hq _) ih, dpB_w (hq _) ih]
theorem gB_w (σ : zS) (p1 p2 : Int) : gB σ p1 p2 = gB σ p2 p1 := by
  have hq : ∀ k e : Int, 0 ≤ e → e < 25 → gQ σ p1 p2 k e = gQ σ p2 p1 k (5 * (e % 5) + e / 5) := fun k e a b => by
    unfold gQ gPT
    rw [show (5 * (e % 5) + e / 5) / 5 = e % 5 by omega, show (5 * (e % 5) + e / 5) % 5 = e / 5 by omega]
    congr 2
    funext b
    exact Int.add_comm _ _
  unfold gB gV
  exact dpB_w (hq 0) (dpV_w hq _)
theorem st_bestPair {σ τ υ : zS} {r1 r2 : Int} (h : jInv σ) (wh : Int) (p : (¬ (0 ≤ wh ∧ wh ≤ 1) → r1 = -2) ∧ (0 ≤ wh ∧ wh ≤ 1 → ∃ fo le : Int, kPr σ 16 fo le ∧ r1 = if wh = 0 then fo else le) ∧ (∀ c : Int, c < 15 ∨ 22 < c → τ c = σ c) ∧ kBf τ ∧ τ 15 10 = σ 15 10 ∧ τ 15 11 = σ 15 11) (q : (¬ (0 ≤ wh ∧ wh ≤ 1) → r2 = -2) ∧ (0 ≤ wh ∧ wh ≤ 1 → ∃ fo le : Int, jPr τ 16 fo le ∧ r2 = if fo < 0 ∨ wh = 0 then fo else le) ∧ jG τ υ ∧ jBd υ 115) : r1 = r2 ∧ jInv υ := by
  have f := p.2.2.1
  have f100 : ∀ c : Int, 100 ≤ c → τ c = σ c := fun c a => f c (by omega)
  have d := jB0_d f100
  refine ⟨?_, iv_fin2 h f p.2.2.2.1 (kCb_d h.2.2.2.2.2.2.2.1 p.2.2.2.2 f) q.2.2.1 q.2.2.2⟩
  by_cases c2 : 0 ≤ wh ∧ wh ≤ 1
  · obtain ⟨fo, le, k1, k2⟩ := p.2.1 c2
    obtain ⟨fo', le', j1, j2⟩ := q.2.1 c2
    have hS : ∀ a b : Int, 0 ≤ a ∧ a ≤ 3 → 0 ≤ b ∧ b ≤ 3 → jS0 τ a b = gB σ (40 + a) (40 + b) := fun a b ha hb => by
      have g := gB_r h ha hb
      unfold jS0
      rw [d.1, gB_j h ha hb, if_pos (by omega)]
    have hv : ∀ a b : Int, 0 ≤ a ∧ a ≤ 3 → 0 ≤ b ∧ b ≤ 3 → (jPv τ a b ↔ kTh σ a b ∧ a ≠ b) := fun a b ha hb => by
      unfold jPv kTh
      rw [f100 100 (by decide), iv_bit h ha.1 ha.2, iv_bit h hb.1 hb.2, and_assoc]
    rcases j1 with ⟨a1, a2, a3⟩ | ⟨x, y, b1, b2, b3, b4, b5, b6, b7, b8⟩
    · rcases k1 with ⟨g1, g2, g3⟩ | ⟨u, w, g1, g2, g3, g4, g5, g6⟩
      · rw [k2, j2, g1, g2, a1, if_pos (Or.inl (by decide))]
        split <;> rfl
      · exfalso
        have g := gB_r h (f := u) (r := w) (by omega) (by omega)
        exact a3 u w (by omega) (by omega) (by omega) (by omega) ((hv u w (by omega) (by omega)).2 ⟨g2, by omega⟩) (by omega) (by rw [hS u w (by omega) (by omega)]; omega)
    · have vxy := (hv x y b1 b2).1 b3
      rw [hS x y b1 b2] at b6
      have lt : x < y := by
        rcases Int.lt_trichotomy x y with hl | hl | hl
        · exact hl
        · exact absurd hl vxy.2
        · exfalso
          have := (b8 y x b2.1 b2.2 b1.1 b1.2 ((hv y x b2 b1).2 ⟨⟨vxy.1.2, vxy.1.1⟩, fun z => vxy.2 z.symm⟩) (by omega) (by rw [hS y x b2 b1]; exact (gB_r h b2 b1).1)).2 (by omega)
          rw [hS y x b2 b1, gB_w] at this
          omega
      rcases k1 with ⟨g1, g2, g3⟩ | ⟨u, w, g1, g2, g3, g4, g5, g6⟩
      · exact absurd vxy.1 (g3 x y b1.1 lt b2.2 (by omega))
      · have r1' := b8 u w (by omega) (by omega) (by omega) (by omega) ((hv u w (by omega) (by omega)).2 ⟨g2, by omega⟩) (by omega) (by rw [hS u w (by omega) (by omega)]; exact (gB_r h (by omega) (by omega)).1)
        rw [hS u w (by omega) (by omega)] at r1'
        have r2' := g6 x y b1.1 lt b2.2 vxy.1 (by omega)
        have e4 : 4 * u + w = 4 * x + y := by
          rcases Int.lt_trichotomy (4 * u + w) (4 * x + y) with hl | hl | hl
          · have := r1'.2 hl; omega
          · exact hl
          · have := r2'.2 hl; omega
        have eu : u = x := by omega
        have ew : w = y := by omega
        subst eu ew
        rw [k2, j2, g4, g5, b5, b6]
        by_cases cw : wh = 0
        · rw [if_pos cw, if_pos (Or.inr cw)]
        · rw [if_neg cw, if_neg (by omega)]
  · rw [p.1 c2, q.1 c2]