def fR (σ τ : zS) : Prop := ∀ k : Int, k < 6 ∨ 14 < k → τ k = σ k
theorem fR_100 {σ τ : zS} (f : fR σ τ) : ∀ c : Int, 100 ≤ c → τ c = σ c := fun c hc => f c (by omega)
theorem iv_fin {σ τ υ : zS} (h : jInv σ) (f : fR σ τ) (g : jFr τ υ) : jInv υ := by
  have e : ∀ c : Int, c ≠ 100 → (c < 6 ∨ 14 < c) → (c < 111 ∨ 114 < c) → υ c = σ c := fun c h1 h2 h3 => funext fun j => by rw [g c j (by omega) h3, f c h2]
  exact jInv_f h (fun c hc => e c (by omega) (by omega) (by omega)) (fun j a b => by rw [g 100 j (by omega) (by omega), f 100 (by omega)]) (kBf_c h.2.2.2.2.2.2.1 (by rw [e 15 (by decide) (by decide) (by decide)]; exact ⟨rfl, rfl⟩) (e 21 (by decide) (by decide) (by decide)) (e 22 (by decide) (by decide) (by decide))) (by unfold kCb; rw [e 15 (by decide) (by decide) (by decide)]; exact h.2.2.2.2.2.2.2.1) (by unfold jBd; rw [e 115 (by decide) (by decide) (by decide)]; exact h.2.2.2.2.2.2.2.2)
theorem rdH_cc {R R' G G' : Int → Int} : ∀ {n : Nat}, (∀ j : Int, 0 ≤ j → j < n → R j = R' j ∧ G j = G' j) → rdH R G n = rdH R' G' n
  | 0, _ => rfl
  | n + 1, h => by
    have hn := h n (by omega) (by omega)
    show mHeat (if R n = 1 then 0 else rdH R G n) (G n) = mHeat (if R' n = 1 then 0 else rdH R' G' n) (G' n)
    rw [hn.1, hn.2, rdH_cc (n := n) (fun j h1 h2 => h j h1 (by omega))]
def jP (σ ρ : zS) (rm : Int) : Prop := (∀ c j : Int, 100 ≤ c → ¬ (c = 100 ∧ 23 ≤ j ∧ j ≤ 30) → (c < 111 ∨ 114 < c) → ρ c j = σ c j) ∧ ∀ i : Int, 0 ≤ i → i < σ 32 12 → ρ 111 i = mRf (kRho σ) rm i ∧ ρ 112 i = mEF (mSg σ) i ∧ ρ 113 i = mEB (mSg σ) i ∧ ρ 114 i = mBt (mSg σ) i
theorem jP_k {σ ρ : zS} {rm : Int} (h : jInv σ) (p : jP σ ρ rm) : (∀ n : Nat, n ≤ (σ 32 12).toNat → jWF ρ n = kWF (kRho σ) rm n ∧ jWB ρ n = kWB (kRho σ) rm n ∧ jH ρ n = kH (kRho σ) rm n ∧ jS ρ n = kS (kRho σ) rm n ∧ mSum (jTF ρ) n = mSum (kTF (kRho σ)) n ∧ mSum (jTB ρ) n = mSum (kTB (kRho σ)) n ∧ mSum (jUf ρ) n = mSum (kUf (kRho σ)) n) ∧ ∀ i : Int, 0 ≤ i → i < σ 32 12 → jY ρ i = kY (kRho σ) rm i := by
  have e := iv_sc h
  have f := iv_fr h
  have k32 : kRho σ 32 = σ 32 := kRho_c σ (by omega)
  have kF : kRho σ (40 + σ 32 7) = σ (40 + σ 32 7) := kRho_c σ (by have := h.1.2.1; omega)
  have kB : kRho σ (40 + σ 32 8) = σ (40 + σ 32 8) := kRho_c σ (by have := h.1.2.1; omega)
  have k35 : kRho σ 35 = σ 35 := kRho_c σ (by omega)
  have r5 : ρ 100 5 = σ 100 5 := p.1 100 5 (by decide) (by decide) (by decide)
  have r6 : ρ 100 6 = σ 100 6 := p.1 100 6 (by decide) (by decide) (by decide)
  have rc : ∀ c : Int, 100 < c → (c < 111 ∨ 114 < c) → ρ c = σ c := fun c a b => funext fun j => p.1 c j (by omega) (by omega) b
  have gT : ∀ i : Int, 0 ≤ i → i < σ 32 12 → jTF ρ i = kTF (kRho σ) i ∧ jTB ρ i = kTB (kRho σ) i ∧ mSort (ρ 105 i) = σ 35 i := fun i a b => by
    have d := p.2 i a b
    unfold jTF jTB kTF kTB
    rw [r5, r6, rc 101 (by decide) (by decide), rc 102 (by decide) (by decide), rc 105 (by decide) (by decide), d.2.1, d.2.2.1, d.2.2.2, k32, kF, kB, f.1.1, f.1.2.1, f.2.1, f.2.2.1]
    exact ⟨rfl, rfl, iv_gr h a b⟩
  have gW : ∀ n : Nat, n ≤ (σ 32 12).toNat → jWF ρ n = kWF (kRho σ) rm n ∧ jWB ρ n = kWB (kRho σ) rm n ∧ jH ρ n = kH (kRho σ) rm n := fun n hn => by
    refine ⟨?_, ?_, ?_⟩
    · unfold jWF kWF
      rw [r5, rc 103 (by decide) (by decide), k32, kF, f.1.2.2.1]
      exact rdW_c (fun j a b => ⟨(p.2 j a (by omega)).1, (p.2 j a (by omega)).2.1⟩)
    · unfold jWB kWB
      rw [r6, rc 103 (by decide) (by decide), k32, kB, f.2.2.2.1]
      exact rdW_c (fun j a b => ⟨(p.2 j a (by omega)).1, (p.2 j a (by omega)).2.2.1⟩)
    · unfold jH kH
      rw [k35]
      exact rdH_cc (fun j a b => ⟨(p.2 j a (by omega)).1, (gT j a (by omega)).2.2⟩)
  refine ⟨fun n hn => ⟨(gW n hn).1, (gW n hn).2.1, (gW n hn).2.2, ?_, ?_, ?_, ?_⟩, fun i a b => ?_⟩
  · unfold jS kS
    rw [p.1 100 8 (by decide) (by decide) (by decide), e.2.2.2.1, k32]
    exact rdS_c (fun j a b => ⟨(p.2 j a (by omega)).1, by
      have g := gT j a (by omega)
      unfold jT kT
      rw [g.1, g.2.1, g.2.2, k35]⟩)
  · exact mSum_c (fun j a b => (gT j a (by omega)).1)
  · exact mSum_c (fun j a b => (gT j a (by omega)).2.1)
  · exact mSum_c (fun j a b => by
      have g := gT j a (by omega)
      unfold jUf kUf
      rw [g.1, g.2.1, g.2.2, k35])
  · have w := gW (i + 1).toNat (by omega)
    unfold jY kY
    rw [w.1, w.2.1, w.2.2, p.1 100 7 (by decide) (by decide) (by decide), e.2.2.1, k32]
theorem tPl {σ τ : zS} (h : jInv σ) (f : fR σ τ) : mSgM τ = mSg σ ∧ τ 100 11 = σ 32 12 ∧ (jPl τ ↔ kPl σ) := by
  have e1 : mSgM τ = mSg σ := by rw [cs_FW (fR_100 f), iv_Sg h]
  have e2 : τ 100 11 = σ 32 12 := by rw [f 100 (by omega), (iv_sc h).2.2.2.2.2.1]
  refine ⟨e1, e2, ?_⟩
  unfold jPl kPl
  rw [e1, e2, f 100 (by omega), h.2.2.2.1.1]
theorem mRf_m (σ : zS) (i : Int) : mRf (kRho σ) (-1) i = mRst (mSg σ) i ∨ i < 0 := by
  have k6 : kRho σ 6 i = mRst (mSg σ) i := rfl
  have o := mRst_or (mSg σ) i
  unfold mRf
  rw [k6]
  rcases o with o | o
  · rw [o.2, if_neg (by decide)]; exact Or.inl rfl
  · rw [o.2, if_pos rfl]
    by_cases hi : i = -1
    · exact Or.inr (by omega)
    · rw [if_neg hi]; exact Or.inl rfl
theorem tPln {σ τ ρ : zS} (h : jInv σ) (f : fR σ τ) (p : jPln τ ρ) : jP σ ρ (-1) := by
  have t := tPl h f
  refine ⟨fun c j a b d => by rw [p.1 c d, f c (by omega)], fun i a b => ?_⟩
  have d := p.2 i a (by rw [t.2.1]; exact b)
  rw [t.1] at d
  refine ⟨?_, d.2.1, d.2.2.1, d.2.2.2⟩
  rcases mRf_m σ i with q | q
  · rw [q]; exact d.1
  · omega
theorem tNo {σ τ : zS} (h : jInv σ) (f : fR σ τ) (n : jNo τ) : ¬ (kPl σ ∧ kAll σ) := fun z => by
  have t := tPl h f
  obtain ⟨ρ, q, h1, h2, h3, h4⟩ := n (t.2.2.2 z.1)
  rw [t.2.1] at h3
  have k := (jP_k h (tPln h f h1)).2 q h2 h3
  exact h4 (k.trans (z.2 q h2 h3))
theorem tYes {σ τ ρ : zS} (h : jInv σ) (f : fR σ τ) (y : jYes τ ρ) : kPl σ ∧ kAll σ ∧ jP σ ρ (-1) := by
  have t := tPl h f
  have p := tPln h f y.2.1
  refine ⟨t.2.2.1 y.1, fun j a b => ?_, p⟩
  rw [← (jP_k h p).2 j a b]
  exact y.2.2 j a (by rw [t.2.1]; exact b)
theorem tSe {σ τ : zS} (h : jInv σ) (f : fR σ τ) : (σ (40 + σ 32 7) 0 = 1 ∧ σ (40 + σ 32 8) 0 = 1) ↔ (mBit (τ 100 0) (τ 100 5) = 1 ∧ mBit (τ 100 0) (τ 100 6) = 1 ∧ τ 100 5 ≠ τ 100 6) := by
  rw [f 100 (by omega)]
  exact iv_se h
theorem fr_judge {σ τ : zS} {r1 : Int} {wh : Int} (p : (¬ (σ (40 + σ 32 7) 0 = 1 ∧ σ (40 + σ 32 8) 0 = 1) → r1 = -3) ∧ (σ (40 + σ 32 7) 0 = 1 ∧ σ (40 + σ 32 8) 0 = 1 → ¬ (0 ≤ wh ∧ wh ≤ 1) → r1 = -2) ∧ (σ (40 + σ 32 7) 0 = 1 ∧ σ (40 + σ 32 8) 0 = 1 → 0 ≤ wh ∧ wh ≤ 1 → (¬ kPl σ → r1 = -5) ∧ (kPl σ → (kAll σ → r1 = -6) ∧ (¬ kAll σ → ∃ q : Int, 0 ≤ q ∧ q < σ 32 12 ∧ kY (kRho σ) (-1) q ≠ -6 ∧ (∀ j : Int, 0 ≤ j → j < q → kY (kRho σ) (-1) j = -6) ∧ r1 = if wh = 0 then q else kY (kRho σ) (-1) q))) ∧ (∀ k : Int, k < 6 ∨ 14 < k → τ k = σ k)) : fR σ τ := p.2.2.2
theorem fr_ridden {σ τ : zS} {r1 : Int} {m0 wh : Int} (p : (¬ (σ (40 + σ 32 7) 0 = 1 ∧ σ (40 + σ 32 8) 0 = 1) → r1 = -3) ∧ (σ (40 + σ 32 7) 0 = 1 ∧ σ (40 + σ 32 8) 0 = 1 → ¬ (-1 ≤ m0 ∧ m0 ≤ σ 32 12 - 1 ∧ 0 ≤ wh ∧ wh ≤ 3) → r1 = -2) ∧ (σ (40 + σ 32 7) 0 = 1 ∧ σ (40 + σ 32 8) 0 = 1 → (-1 ≤ m0 ∧ m0 ≤ σ 32 12 - 1 ∧ 0 ≤ wh ∧ wh ≤ 3) → ¬ (kPl σ ∧ kAll σ) → r1 = -5) ∧ (σ (40 + σ 32 7) 0 = 1 ∧ σ (40 + σ 32 8) 0 = 1 → (-1 ≤ m0 ∧ m0 ≤ σ 32 12 - 1 ∧ 0 ≤ wh ∧ wh ≤ 3) → kPl σ → kAll σ → ∀ M0 : Int, M0 = (if m0 < 0 then σ 32 12 - 1 else m0) → r1 = (if wh = 0 then kS (kRho σ) (-1) (M0 + 1).toNat else if wh = 1 then kWF (kRho σ) (-1) (M0 + 1).toNat else if wh = 2 then kWB (kRho σ) (-1) (M0 + 1).toNat else kH (kRho σ) (-1) (M0 + 1).toNat)) ∧ (∀ k : Int, k < 6 ∨ 14 < k → τ k = σ k)) : fR σ τ := p.2.2.2.2
theorem fr_share {σ τ : zS} {r1 : Int} {pt : Int} (p : (¬ (σ (40 + σ 32 7) 0 = 1 ∧ σ (40 + σ 32 8) 0 = 1) → r1 = (-1000000000000000003)) ∧ (σ (40 + σ 32 7) 0 = 1 ∧ σ (40 + σ 32 8) 0 = 1 → ¬ (0 ≤ pt ∧ pt ≤ 1) → r1 = (-1000000000000000002)) ∧ (σ (40 + σ 32 7) 0 = 1 ∧ σ (40 + σ 32 8) 0 = 1 → 0 ≤ pt ∧ pt ≤ 1 → ¬ (kPl σ ∧ kAll σ) → r1 = (-1000000000000000005)) ∧ (σ (40 + σ 32 7) 0 = 1 ∧ σ (40 + σ 32 8) 0 = 1 → 0 ≤ pt ∧ pt ≤ 1 → kPl σ → kAll σ → r1 = if mSum (kTF (kRho σ)) (σ 32 12).toNat + mSum (kTB (kRho σ)) (σ 32 12).toNat = 0 then pt else mFrac (mSum (kTF (kRho σ)) (σ 32 12).toNat) (mSum (kTF (kRho σ)) (σ 32 12).toNat + mSum (kTB (kRho σ)) (σ 32 12).toNat) pt) ∧ (∀ k : Int, k < 6 ∨ 14 < k → τ k = σ k)) : fR σ τ := p.2.2.2.2
theorem fr_unseen {σ τ : zS} {r1 : Int}  (p : (¬ (σ (40 + σ 32 7) 0 = 1 ∧ σ (40 + σ 32 8) 0 = 1) → r1 = -3) ∧ (σ (40 + σ 32 7) 0 = 1 ∧ σ (40 + σ 32 8) 0 = 1 → ¬ (kPl σ ∧ kAll σ) → r1 = -5) ∧ (σ (40 + σ 32 7) 0 = 1 ∧ σ (40 + σ 32 8) 0 = 1 → kPl σ → kAll σ → r1 = mSum (kUf (kRho σ)) (σ 32 12).toNat) ∧ (∀ k : Int, k < 6 ∨ 14 < k → τ k = σ k)) : fR σ τ := p.2.2.2
theorem fr_quarrel {σ τ : zS} {r1 : Int} {n0 : Int} (p : (¬ (σ (40 + σ 32 7) 0 = 1 ∧ σ (40 + σ 32 8) 0 = 1) → r1 = -3) ∧ (σ (40 + σ 32 7) 0 = 1 ∧ σ (40 + σ 32 8) 0 = 1 → ¬ (0 ≤ n0 ∧ n0 ≤ 99) → r1 = -2) ∧ (σ (40 + σ 32 7) 0 = 1 ∧ σ (40 + σ 32 8) 0 = 1 → 0 ≤ n0 ∧ n0 ≤ 99 → ¬ (kPl σ ∧ kAll σ) → r1 = -5) ∧ (σ (40 + σ 32 7) 0 = 1 ∧ σ (40 + σ 32 8) 0 = 1 → 0 ≤ n0 ∧ n0 ≤ 99 → kPl σ → kAll σ → r1 = mQr (max 0 (mBel (mSum (kTF (kRho σ)) (σ 32 12).toNat + mSum (kTB (kRho σ)) (σ 32 12).toNat) (mSum (kTF (kRho σ)) (σ 32 12).toNat) (σ (40 + σ 32 7) 4) + mBel (mSum (kTF (kRho σ)) (σ 32 12).toNat + mSum (kTB (kRho σ)) (σ 32 12).toNat) (mSum (kTB (kRho σ)) (σ 32 12).toNat) (σ (40 + σ 32 8) 4) - 100)) (σ 32 11) n0.toNat) ∧ (∀ k : Int, k < 6 ∨ 14 < k → τ k = σ k)) : fR σ τ := p.2.2.2.2
theorem fr_home {σ τ : zS} {r1 : Int} {t0 sec pt : Int} (p : (¬ (σ (40 + σ 32 7) 0 = 1 ∧ σ (40 + σ 32 8) 0 = 1) → r1 = (-1000000000000000003)) ∧ (σ (40 + σ 32 7) 0 = 1 ∧ σ (40 + σ 32 8) 0 = 1 → ¬ ((0 ≤ t0 ∧ t0 ≤ 10) ∧ (0 ≤ sec ∧ sec ≤ 9999) ∧ 0 ≤ pt ∧ pt ≤ 1) → r1 = (-1000000000000000002)) ∧ (σ (40 + σ 32 7) 0 = 1 ∧ σ (40 + σ 32 8) 0 = 1 → (0 ≤ t0 ∧ t0 ≤ 10) ∧ (0 ≤ sec ∧ sec ≤ 9999) ∧ 0 ≤ pt ∧ pt ≤ 1 → ¬ (kPl σ ∧ kAll σ) → r1 = (-1000000000000000005)) ∧ (σ (40 + σ 32 7) 0 = 1 ∧ σ (40 + σ 32 8) 0 = 1 → (0 ≤ t0 ∧ t0 ≤ 10) ∧ (0 ≤ sec ∧ sec ≤ 9999) ∧ 0 ≤ pt ∧ pt ≤ 1 → kPl σ → kAll σ → r1 = if 12 < mSum (fun i => if σ 35 i = 5 then 1 else 0) (σ 32 12).toNat then (-1000000000000000004) else mFrac (if sec - kS (kRho σ) (-1) (σ 32 12).toNat < 0 then 0 else mSum (mChF (mSum (fun i => if σ 35 i = 5 then 1 else 0) (σ 32 12).toNat) t0) (min (mSum (fun i => if σ 35 i = 5 then 1 else 0) (σ 32 12).toNat) ((sec - kS (kRho σ) (-1) (σ 32 12).toNat) / 5) + 1).toNat) (10 ^ (mSum (fun i => if σ 35 i = 5 then 1 else 0) (σ 32 12).toNat).toNat) pt) ∧ (∀ k : Int, k < 6 ∨ 14 < k → τ k = σ k)) : fR σ τ := p.2.2.2.2
theorem fr_mean {σ τ : zS} {r1 : Int} {t0 pt : Int} (p : (¬ (σ (40 + σ 32 7) 0 = 1 ∧ σ (40 + σ 32 8) 0 = 1) → r1 = (-1000000000000000003)) ∧ (σ (40 + σ 32 7) 0 = 1 ∧ σ (40 + σ 32 8) 0 = 1 → ¬ (0 ≤ t0 ∧ t0 ≤ 10 ∧ 0 ≤ pt ∧ pt ≤ 1) → r1 = (-1000000000000000002)) ∧ (σ (40 + σ 32 7) 0 = 1 ∧ σ (40 + σ 32 8) 0 = 1 → 0 ≤ t0 ∧ t0 ≤ 10 ∧ 0 ≤ pt ∧ pt ≤ 1 → ¬ (kPl σ ∧ kAll σ) → r1 = (-1000000000000000005)) ∧ (σ (40 + σ 32 7) 0 = 1 ∧ σ (40 + σ 32 8) 0 = 1 → 0 ≤ t0 ∧ t0 ≤ 10 ∧ 0 ≤ pt ∧ pt ≤ 1 → kPl σ → kAll σ → r1 = mFrac (10 * kS (kRho σ) (-1) (σ 32 12).toNat + 5 * t0 * mSum (fun i => if σ 35 i = 5 then 1 else 0) (σ 32 12).toNat) 10 pt) ∧ (∀ k : Int, k < 6 ∨ 14 < k → τ k = σ k)) : fR σ τ := p.2.2.2.2
theorem fr_worth {σ τ : zS} {r1 : Int}  (p : (¬ (σ (40 + σ 32 7) 0 = 1 ∧ σ (40 + σ 32 8) 0 = 1) → r1 = -3) ∧ (σ (40 + σ 32 7) 0 = 1 ∧ σ (40 + σ 32 8) 0 = 1 → ¬ (kPl σ ∧ kNoR σ) → r1 = -5) ∧ (σ (40 + σ 32 7) 0 = 1 ∧ σ (40 + σ 32 8) 0 = 1 → kPl σ → kNoR σ → (kAll σ → r1 = -6) ∧ (∀ q : Int, 0 ≤ q → q < σ 32 12 → kY (kRho σ) (-1) q ≠ -6 → (∀ j : Int, 0 ≤ j → j < q → kY (kRho σ) (-1) j = -6) → ((r1 = -6 ∧ ∀ s : Int, 0 ≤ s → s ≤ q → ¬ kAllR σ s) ∨ (0 ≤ r1 ∧ r1 ≤ q ∧ kAllR σ r1 ∧ ∀ s : Int, 0 ≤ s → s < r1 → ¬ kAllR σ s)))) ∧ (∀ k : Int, k < 6 ∨ 14 < k → τ k = σ k)) : fR σ τ := p.2.2.2
theorem st_judge {σ τ υ : zS} {r1 r2 : Int} (h : jInv σ) (wh : Int) (p : (¬ (σ (40 + σ 32 7) 0 = 1 ∧ σ (40 + σ 32 8) 0 = 1) → r1 = -3) ∧ (σ (40 + σ 32 7) 0 = 1 ∧ σ (40 + σ 32 8) 0 = 1 → ¬ (0 ≤ wh ∧ wh ≤ 1) → r1 = -2) ∧ (σ (40 + σ 32 7) 0 = 1 ∧ σ (40 + σ 32 8) 0 = 1 → 0 ≤ wh ∧ wh ≤ 1 → (¬ kPl σ → r1 = -5) ∧ (kPl σ → (kAll σ → r1 = -6) ∧ (¬ kAll σ → ∃ q : Int, 0 ≤ q ∧ q < σ 32 12 ∧ kY (kRho σ) (-1) q ≠ -6 ∧ (∀ j : Int, 0 ≤ j → j < q → kY (kRho σ) (-1) j = -6) ∧ r1 = if wh = 0 then q else kY (kRho σ) (-1) q))) ∧ (∀ k : Int, k < 6 ∨ 14 < k → τ k = σ k)) (q : (¬ (mBit (τ 100 0) (τ 100 5) = 1 ∧ mBit (τ 100 0) (τ 100 6) = 1 ∧ τ 100 5 ≠ τ 100 6) → r2 = -3) ∧ (mBit (τ 100 0) (τ 100 5) = 1 ∧ mBit (τ 100 0) (τ 100 6) = 1 ∧ τ 100 5 ≠ τ 100 6 → ¬ (0 ≤ wh ∧ wh ≤ 1) → r2 = -2) ∧ (mBit (τ 100 0) (τ 100 5) = 1 ∧ mBit (τ 100 0) (τ 100 6) = 1 ∧ τ 100 5 ≠ τ 100 6 → 0 ≤ wh ∧ wh ≤ 1 → (¬ jPl τ ∧ r2 = -5) ∨ (jPl τ ∧ ∃ ρ : zS, jPln τ ρ ∧ (((∀ j : Int, 0 ≤ j → j < τ 100 11 → jY ρ j = -6) ∧ r2 = -6) ∨ ∃ q : Int, 0 ≤ q ∧ q < τ 100 11 ∧ jY ρ q ≠ -6 ∧ (∀ j : Int, 0 ≤ j → j < q → jY ρ j = -6) ∧ r2 = if wh = 0 then q else jY ρ q))) ∧ jFr τ υ) : r1 = r2 ∧ jInv υ := by
  have f := fr_judge p
  have t := tPl h f
  have se := tSe h f
  refine ⟨?_, iv_fin h f q.2.2.2⟩
  by_cases c1 : σ (40 + σ 32 7) 0 = 1 ∧ σ (40 + σ 32 8) 0 = 1
  · have d1 := se.1 c1
    by_cases c2 : 0 ≤ wh ∧ wh ≤ 1
    · have p3 := p.2.2.1 c1 c2
      rcases q.2.2.1 d1 c2 with ⟨n, e⟩ | ⟨y, ρ, hp, g⟩
      · rw [p3.1 (fun z => n (t.2.2.2 z)), e]
      · have k := (jP_k h (tPln h f hp)).2
        rw [t.2.1] at g
        rcases g with ⟨ga, e⟩ | ⟨x, x1, x2, x3, x4, x5⟩
        · rw [(p3.2 (t.2.2.1 y)).1 (fun j a b => by rw [← k j a b]; exact ga j a b), e]
        · obtain ⟨z, z1, z2, z3, z4, z5⟩ := (p3.2 (t.2.2.1 y)).2 (fun ha => x3 (by rw [k x x1 x2]; exact ha x x1 x2))
          have hxz : x = z := first_one x1 (by rw [← k x x1 x2]; exact x3) (fun j a b => by rw [← k j a (by omega)]; exact x4 j a b) z1 z3 z4
          rw [z5, x5, hxz, k z z1 z2]
    · rw [p.2.1 c1 c2, q.2.1 d1 c2]
  · rw [p.1 c1, q.1 (fun z => c1 (se.2 z))]
theorem st_ridden {σ τ υ : zS} {r1 r2 : Int} (h : jInv σ) (m0 wh : Int) (p : (¬ (σ (40 + σ 32 7) 0 = 1 ∧ σ (40 + σ 32 8) 0 = 1) → r1 = -3) ∧ (σ (40 + σ 32 7) 0 = 1 ∧ σ (40 + σ 32 8) 0 = 1 → ¬ (-1 ≤ m0 ∧ m0 ≤ σ 32 12 - 1 ∧ 0 ≤ wh ∧ wh ≤ 3) → r1 = -2) ∧ (σ (40 + σ 32 7) 0 = 1 ∧ σ (40 + σ 32 8) 0 = 1 → (-1 ≤ m0 ∧ m0 ≤ σ 32 12 - 1 ∧ 0 ≤ wh ∧ wh ≤ 3) → ¬ (kPl σ ∧ kAll σ) → r1 = -5) ∧ (σ (40 + σ 32 7) 0 = 1 ∧ σ (40 + σ 32 8) 0 = 1 → (-1 ≤ m0 ∧ m0 ≤ σ 32 12 - 1 ∧ 0 ≤ wh ∧ wh ≤ 3) → kPl σ → kAll σ → ∀ M0 : Int, M0 = (if m0 < 0 then σ 32 12 - 1 else m0) → r1 = (if wh = 0 then kS (kRho σ) (-1) (M0 + 1).toNat else if wh = 1 then kWF (kRho σ) (-1) (M0 + 1).toNat else if wh = 2 then kWB (kRho σ) (-1) (M0 + 1).toNat else kH (kRho σ) (-1) (M0 + 1).toNat)) ∧ (∀ k : Int, k < 6 ∨ 14 < k → τ k = σ k)) (q : (¬ (mBit (τ 100 0) (τ 100 5) = 1 ∧ mBit (τ 100 0) (τ 100 6) = 1 ∧ τ 100 5 ≠ τ 100 6) → r2 = -3) ∧ (mBit (τ 100 0) (τ 100 5) = 1 ∧ mBit (τ 100 0) (τ 100 6) = 1 ∧ τ 100 5 ≠ τ 100 6 → ¬ ((-1 ≤ m0 ∧ m0 ≤ τ 100 11 - 1) ∧ 0 ≤ wh ∧ wh ≤ 3) → r2 = -2) ∧ (mBit (τ 100 0) (τ 100 5) = 1 ∧ mBit (τ 100 0) (τ 100 6) = 1 ∧ τ 100 5 ≠ τ 100 6 → (-1 ≤ m0 ∧ m0 ≤ τ 100 11 - 1) ∧ 0 ≤ wh ∧ wh ≤ 3 → (jNo τ ∧ r2 = -5) ∨ ∃ ρ : zS, jYes τ ρ ∧ ∀ M0 : Int, M0 = (if m0 < 0 then τ 100 11 - 1 else m0) → r2 = (if wh = 0 then jS ρ (M0 + 1).toNat else if wh = 1 then jWF ρ (M0 + 1).toNat else if wh = 2 then jWB ρ (M0 + 1).toNat else jH ρ (M0 + 1).toNat)) ∧ jFr τ υ) : r1 = r2 ∧ jInv υ := by
  have f := fr_ridden p
  have t := tPl h f
  have se := tSe h f
  refine ⟨?_, iv_fin h f q.2.2.2⟩
  by_cases c1 : σ (40 + σ 32 7) 0 = 1 ∧ σ (40 + σ 32 8) 0 = 1
  · have d1 := se.1 c1
    by_cases c2 : (-1 ≤ m0 ∧ m0 ≤ σ 32 12 - 1 ∧ 0 ≤ wh ∧ wh ≤ 3)
    · rcases q.2.2.1 d1 (by rw [t.2.1]; omega) with ⟨n, e⟩ | ⟨ρ, y, g⟩
      · rw [p.2.2.1 c1 c2 (tNo h f n), e]
      · have yk := tYes h f y
        have k := (jP_k h yk.2.2).1
        have g' := g (if m0 < 0 then σ 32 12 - 1 else m0) (by rw [t.2.1])
        have hM : 0 ≤ (if m0 < 0 then σ 32 12 - 1 else m0) ∧ (if m0 < 0 then σ 32 12 - 1 else m0) < σ 32 12 := by have := pk_hn h; split <;> omega
        have kk := k ((if m0 < 0 then σ 32 12 - 1 else m0) + 1).toNat (by omega)
        rw [p.2.2.2.1 c1 c2 yk.1 yk.2.1 _ rfl, g', kk.1, kk.2.1, kk.2.2.1, kk.2.2.2.1]
    · rw [p.2.1 c1 c2, q.2.1 d1 (by rw [t.2.1]; omega)]
  · rw [p.1 c1, q.1 (fun z => c1 (se.2 z))]
theorem st_share {σ τ υ : zS} {r1 r2 : Int} (h : jInv σ) (pt : Int) (p : (¬ (σ (40 + σ 32 7) 0 = 1 ∧ σ (40 + σ 32 8) 0 = 1) → r1 = (-1000000000000000003)) ∧ (σ (40 + σ 32 7) 0 = 1 ∧ σ (40 + σ 32 8) 0 = 1 → ¬ (0 ≤ pt ∧ pt ≤ 1) → r1 = (-1000000000000000002)) ∧ (σ (40 + σ 32 7) 0 = 1 ∧ σ (40 + σ 32 8) 0 = 1 → 0 ≤ pt ∧ pt ≤ 1 → ¬ (kPl σ ∧ kAll σ) → r1 = (-1000000000000000005)) ∧ (σ (40 + σ 32 7) 0 = 1 ∧ σ (40 + σ 32 8) 0 = 1 → 0 ≤ pt ∧ pt ≤ 1 → kPl σ → kAll σ → r1 = if mSum (kTF (kRho σ)) (σ 32 12).toNat + mSum (kTB (kRho σ)) (σ 32 12).toNat = 0 then pt else mFrac (mSum (kTF (kRho σ)) (σ 32 12).toNat) (mSum (kTF (kRho σ)) (σ 32 12).toNat + mSum (kTB (kRho σ)) (σ 32 12).toNat) pt) ∧ (∀ k : Int, k < 6 ∨ 14 < k → τ k = σ k)) (q : (¬ (mBit (τ 100 0) (τ 100 5) = 1 ∧ mBit (τ 100 0) (τ 100 6) = 1 ∧ τ 100 5 ≠ τ 100 6) → r2 = (-1000000000000000003)) ∧ (mBit (τ 100 0) (τ 100 5) = 1 ∧ mBit (τ 100 0) (τ 100 6) = 1 ∧ τ 100 5 ≠ τ 100 6 → ¬ (0 ≤ pt ∧ pt ≤ 1) → r2 = (-1000000000000000002)) ∧ (mBit (τ 100 0) (τ 100 5) = 1 ∧ mBit (τ 100 0) (τ 100 6) = 1 ∧ τ 100 5 ≠ τ 100 6 → 0 ≤ pt ∧ pt ≤ 1 → (jNo τ ∧ r2 = (-1000000000000000005)) ∨ ∃ ρ : zS, jYes τ ρ ∧ r2 = mFrac (mSum (jTF ρ) (τ 100 11).toNat) (if mSum (jTF ρ) (τ 100 11).toNat + mSum (jTB ρ) (τ 100 11).toNat = 0 then 1 else mSum (jTF ρ) (τ 100 11).toNat + mSum (jTB ρ) (τ 100 11).toNat) pt) ∧ jFr τ υ) : r1 = r2 ∧ jInv υ := by
  have f := fr_share p
  have t := tPl h f
  have se := tSe h f
  refine ⟨?_, iv_fin h f q.2.2.2⟩
  by_cases c1 : σ (40 + σ 32 7) 0 = 1 ∧ σ (40 + σ 32 8) 0 = 1
  · have d1 := se.1 c1
    by_cases c2 : 0 ≤ pt ∧ pt ≤ 1
    · rcases q.2.2.1 d1 c2 with ⟨n, e⟩ | ⟨ρ, y, g⟩
      · rw [p.2.2.1 c1 c2 (tNo h f n), e]
      · have yk := tYes h f y
        have k := (jP_k h yk.2.2).1
        have kk := k (σ 32 12).toNat (Nat.le_refl _)
        rw [t.2.1] at g
        rw [p.2.2.2.1 c1 c2 yk.1 yk.2.1, g, kk.2.2.2.2.1, kk.2.2.2.2.2.1]
        by_cases hz : mSum (kTF (kRho σ)) (σ 32 12).toNat + mSum (kTB (kRho σ)) (σ 32 12).toNat = 0
        · rw [if_pos hz, if_pos hz]
          have b := kSum_b (pk_hn h) (pk_hse h) (pk_hrd h) (pk_hpz h) yk.1
          have z1 : mSum (kTF (kRho σ)) (σ 32 12).toNat = 0 := by omega
          rw [z1]
          have c : pt = 0 ∨ pt = 1 := by omega
          rcases c with rfl | rfl <;> decide
        · rw [if_neg hz, if_neg hz]
    · rw [p.2.1 c1 c2, q.2.1 d1 c2]
  · rw [p.1 c1, q.1 (fun z => c1 (se.2 z))]
theorem mul_r (a b c : Int) : a * b * c = a * c * b := by rw [Int.mul_assoc, Int.mul_comm b c, ← Int.mul_assoc]
theorem tCn {σ τ : zS} (h : jInv σ) (f : fR σ τ) : jCn τ = mSum (fun i => if σ 35 i = 5 then 1 else 0) (σ 32 12).toNat := by
  have e := iv_sc h
  have o := pk_hn h
  unfold jCn
  rw [f 100 (by omega), f 105 (by omega), e.2.2.2.2.2.1]
  exact mSum_c (fun i a b => by
    have g := iv_gr h a (by omega)
    show (if σ 105 i = 99 then (1 : Int) else 0) = if σ 35 i = 5 then 1 else 0
    by_cases hc : σ 105 i = 99
    · rw [if_pos hc, if_pos (by rw [← g, hc]; rfl)]
    · rw [if_neg hc, if_neg]
      intro q
      rw [← g] at q
      unfold mSort at q
      (repeat' split at q) <;> omega)
theorem st_mean {σ τ υ : zS} {r1 r2 : Int} (h : jInv σ) (t0 pt : Int) (p : (¬ (σ (40 + σ 32 7) 0 = 1 ∧ σ (40 + σ 32 8) 0 = 1) → r1 = (-1000000000000000003)) ∧ (σ (40 + σ 32 7) 0 = 1 ∧ σ (40 + σ 32 8) 0 = 1 → ¬ (0 ≤ t0 ∧ t0 ≤ 10 ∧ 0 ≤ pt ∧ pt ≤ 1) → r1 = (-1000000000000000002)) ∧ (σ (40 + σ 32 7) 0 = 1 ∧ σ (40 + σ 32 8) 0 = 1 → 0 ≤ t0 ∧ t0 ≤ 10 ∧ 0 ≤ pt ∧ pt ≤ 1 → ¬ (kPl σ ∧ kAll σ) → r1 = (-1000000000000000005)) ∧ (σ (40 + σ 32 7) 0 = 1 ∧ σ (40 + σ 32 8) 0 = 1 → 0 ≤ t0 ∧ t0 ≤ 10 ∧ 0 ≤ pt ∧ pt ≤ 1 → kPl σ → kAll σ → r1 = mFrac (10 * kS (kRho σ) (-1) (σ 32 12).toNat + 5 * t0 * mSum (fun i => if σ 35 i = 5 then 1 else 0) (σ 32 12).toNat) 10 pt) ∧ (∀ k : Int, k < 6 ∨ 14 < k → τ k = σ k)) (q : (¬ (mBit (τ 100 0) (τ 100 5) = 1 ∧ mBit (τ 100 0) (τ 100 6) = 1 ∧ τ 100 5 ≠ τ 100 6) → r2 = (-1000000000000000003)) ∧ (mBit (τ 100 0) (τ 100 5) = 1 ∧ mBit (τ 100 0) (τ 100 6) = 1 ∧ τ 100 5 ≠ τ 100 6 → ¬ ((0 ≤ t0 ∧ t0 ≤ 10) ∧ 0 ≤ pt ∧ pt ≤ 1) → r2 = (-1000000000000000002)) ∧ (mBit (τ 100 0) (τ 100 5) = 1 ∧ mBit (τ 100 0) (τ 100 6) = 1 ∧ τ 100 5 ≠ τ 100 6 → (0 ≤ t0 ∧ t0 ≤ 10) ∧ 0 ≤ pt ∧ pt ≤ 1 → (jNo τ ∧ r2 = (-1000000000000000005)) ∨ ∃ ρ : zS, jYes τ ρ ∧ r2 = mFrac (10 * (jS ρ (τ 100 11).toNat) + 5 * jCn τ * t0) 10 pt) ∧ jFr τ υ) : r1 = r2 ∧ jInv υ := by
  have f := fr_mean p
  have t := tPl h f
  have se := tSe h f
  refine ⟨?_, iv_fin h f q.2.2.2⟩
  by_cases c1 : σ (40 + σ 32 7) 0 = 1 ∧ σ (40 + σ 32 8) 0 = 1
  · have d1 := se.1 c1
    by_cases c2 : 0 ≤ t0 ∧ t0 ≤ 10 ∧ 0 ≤ pt ∧ pt ≤ 1
    · rcases q.2.2.1 d1 (by omega) with ⟨n, e⟩ | ⟨ρ, y, g⟩
      · rw [p.2.2.1 c1 c2 (tNo h f n), e]
      · have yk := tYes h f y
        have k := (jP_k h yk.2.2).1
        have kk := k (σ 32 12).toNat (Nat.le_refl _)
        rw [t.2.1, tCn h f] at g
        rw [p.2.2.2.1 c1 c2 yk.1 yk.2.1, g, kk.2.2.2.1, mul_r]
    · rw [p.2.1 c1 c2, q.2.1 d1 (by omega)]
  · rw [p.1 c1, q.1 (fun z => c1 (se.2 z))]
theorem st_quarrel {σ τ υ : zS} {r1 r2 : Int} (h : jInv σ) (n0 : Int) (p : (¬ (σ (40 + σ 32 7) 0 = 1 ∧ σ (40 + σ 32 8) 0 = 1) → r1 = -3) ∧ (σ (40 + σ 32 7) 0 = 1 ∧ σ (40 + σ 32 8) 0 = 1 → ¬ (0 ≤ n0 ∧ n0 ≤ 99) → r1 = -2) ∧ (σ (40 + σ 32 7) 0 = 1 ∧ σ (40 + σ 32 8) 0 = 1 → 0 ≤ n0 ∧ n0 ≤ 99 → ¬ (kPl σ ∧ kAll σ) → r1 = -5) ∧ (σ (40 + σ 32 7) 0 = 1 ∧ σ (40 + σ 32 8) 0 = 1 → 0 ≤ n0 ∧ n0 ≤ 99 → kPl σ → kAll σ → r1 = mQr (max 0 (mBel (mSum (kTF (kRho σ)) (σ 32 12).toNat + mSum (kTB (kRho σ)) (σ 32 12).toNat) (mSum (kTF (kRho σ)) (σ 32 12).toNat) (σ (40 + σ 32 7) 4) + mBel (mSum (kTF (kRho σ)) (σ 32 12).toNat + mSum (kTB (kRho σ)) (σ 32 12).toNat) (mSum (kTB (kRho σ)) (σ 32 12).toNat) (σ (40 + σ 32 8) 4) - 100)) (σ 32 11) n0.toNat) ∧ (∀ k : Int, k < 6 ∨ 14 < k → τ k = σ k)) (q : (¬ (mBit (τ 100 0) (τ 100 5) = 1 ∧ mBit (τ 100 0) (τ 100 6) = 1 ∧ τ 100 5 ≠ τ 100 6) → r2 = -3) ∧ (mBit (τ 100 0) (τ 100 5) = 1 ∧ mBit (τ 100 0) (τ 100 6) = 1 ∧ τ 100 5 ≠ τ 100 6 → ¬ (0 ≤ n0 ∧ n0 ≤ 99) → r2 = -2) ∧ (mBit (τ 100 0) (τ 100 5) = 1 ∧ mBit (τ 100 0) (τ 100 6) = 1 ∧ τ 100 5 ≠ τ 100 6 → 0 ≤ n0 ∧ n0 ≤ 99 → (jNo τ ∧ r2 = -5) ∨ ∃ ρ : zS, jYes τ ρ ∧ r2 = mQr (max 0 (mBel (mSum (jTF ρ) (τ 100 11).toNat + mSum (jTB ρ) (τ 100 11).toNat) (mSum (jTF ρ) (τ 100 11).toNat) (τ 104 (τ 100 5)) + mBel (mSum (jTF ρ) (τ 100 11).toNat + mSum (jTB ρ) (τ 100 11).toNat) (mSum (jTB ρ) (τ 100 11).toNat) (τ 104 (τ 100 6)) - 100)) (τ 100 9) n0.toNat) ∧ jFr τ υ) : r1 = r2 ∧ jInv υ := by
  have f := fr_quarrel p
  have t := tPl h f
  have se := tSe h f
  refine ⟨?_, iv_fin h f q.2.2.2⟩
  by_cases c1 : σ (40 + σ 32 7) 0 = 1 ∧ σ (40 + σ 32 8) 0 = 1
  · have d1 := se.1 c1
    by_cases c2 : 0 ≤ n0 ∧ n0 ≤ 99
    · rcases q.2.2.1 d1 c2 with ⟨n, e⟩ | ⟨ρ, y, g⟩
      · rw [p.2.2.1 c1 c2 (tNo h f n), e]
      · have yk := tYes h f y
        have k := (jP_k h yk.2.2).1
        have kk := k (σ 32 12).toNat (Nat.le_refl _)
        have fr := iv_fr h
        rw [t.2.1, f 100 (by omega), f 104 (by omega)] at g
        rw [p.2.2.2.1 c1 c2 yk.1 yk.2.1, g, kk.2.2.2.2.1, kk.2.2.2.2.2.1, fr.1.2.2.2, fr.2.2.2.2, (iv_sc h).2.2.2.2.1]
    · rw [p.2.1 c1 c2, q.2.1 d1 c2]
  · rw [p.1 c1, q.1 (fun z => c1 (se.2 z))]
theorem st_unseen {σ τ υ : zS} {r1 r2 : Int} (h : jInv σ)  (p : (¬ (σ (40 + σ 32 7) 0 = 1 ∧ σ (40 + σ 32 8) 0 = 1) → r1 = -3) ∧ (σ (40 + σ 32 7) 0 = 1 ∧ σ (40 + σ 32 8) 0 = 1 → ¬ (kPl σ ∧ kAll σ) → r1 = -5) ∧ (σ (40 + σ 32 7) 0 = 1 ∧ σ (40 + σ 32 8) 0 = 1 → kPl σ → kAll σ → r1 = mSum (kUf (kRho σ)) (σ 32 12).toNat) ∧ (∀ k : Int, k < 6 ∨ 14 < k → τ k = σ k)) (q : (¬ (mBit (τ 100 0) (τ 100 5) = 1 ∧ mBit (τ 100 0) (τ 100 6) = 1 ∧ τ 100 5 ≠ τ 100 6) → r2 = -3) ∧ (mBit (τ 100 0) (τ 100 5) = 1 ∧ mBit (τ 100 0) (τ 100 6) = 1 ∧ τ 100 5 ≠ τ 100 6 → (jNo τ ∧ r2 = -5) ∨ ∃ ρ : zS, jYes τ ρ ∧ r2 = mSum (jUf ρ) (τ 100 11).toNat) ∧ jFr τ υ) : r1 = r2 ∧ jInv υ := by
  have f := fr_unseen p
  have t := tPl h f
  have se := tSe h f
  refine ⟨?_, iv_fin h f q.2.2⟩
  by_cases c1 : σ (40 + σ 32 7) 0 = 1 ∧ σ (40 + σ 32 8) 0 = 1
  · have d1 := se.1 c1
    rcases q.2.1 d1 with ⟨n, e⟩ | ⟨ρ, y, g⟩
    · rw [p.2.1 c1 (tNo h f n), e]
    · have yk := tYes h f y
      rw [t.2.1] at g
      rw [p.2.2.1 c1 yk.1 yk.2.1, g, ((jP_k h yk.2.2).1 (σ 32 12).toNat (Nat.le_refl _)).2.2.2.2.2.2]
  · rw [p.1 c1, q.1 (fun z => c1 (se.2 z))]
theorem tNoR {σ τ : zS} (h : jInv σ) (f : fR σ τ) : jNoR τ ↔ kNoR σ := by
  have t := tPl h f
  unfold jNoR kNoR
  rw [t.1, t.2.1]
theorem tPlR {σ τ ρ : zS} {k : Int} (h : jInv σ) (f : fR σ τ) (hn : kNoR σ) (p : jPlR τ ρ k) : jP σ ρ k := by
  have t := tPl h f
  refine ⟨fun c j a b d => by rw [p.1 c j b d, f c (by omega)], fun i a b => ?_⟩
  have d := p.2 i a (by rw [t.2.1]; exact b)
  rw [t.1] at d
  refine ⟨?_, d.2.1, d.2.2.1, d.2.2.2⟩
  have k6 : kRho σ 6 i = mRst (mSg σ) i := rfl
  rw [d.1]
  unfold mRf
  rw [k6, hn i a b, if_pos rfl]
theorem tGd {σ τ : zS} {k : Int} (h : jInv σ) (f : fR σ τ) (hn : kNoR σ) (g : jGdR τ k) : kAllR σ k := by
  have t := tPl h f
  obtain ⟨ρ, p, g⟩ := g
  exact fun j a b => by rw [← (jP_k h (tPlR h f hn p)).2 j a b]; exact g j a (by rw [t.2.1]; exact b)
theorem tBd {σ τ : zS} {k : Int} (h : jInv σ) (f : fR σ τ) (hn : kNoR σ) (g : jBdR τ k) : ¬ kAllR σ k := fun z => by
  have t := tPl h f
  obtain ⟨ρ, q, p, g1, g2, g3⟩ := g
  rw [t.2.1] at g2
  exact g3 (by rw [(jP_k h (tPlR h f hn p)).2 q g1 g2]; exact z q g1 g2)
theorem kBehind {σ : zS} {q k : Int} (hq : 0 ≤ q ∧ q < σ 32 12) (hy : kY (kRho σ) (-1) q ≠ -6) (hk : q < k) : ¬ kAllR σ k := fun z => by
  apply hy
  rw [← z q hq.1 hq.2]
  have e : ∀ j : Int, 0 ≤ j → j < (q + 1).toNat → mRf (kRho σ) (-1) j = mRf (kRho σ) k j := fun j a b => by
    unfold mRf
    split
    · rw [if_neg (show ¬ j = -1 by omega), if_neg (show ¬ j = k by omega)]
    · rfl
  unfold kY kWF kWB kH
  rw [rdW_c (R := mRf (kRho σ) (-1)) (R' := mRf (kRho σ) k) (n := (q + 1).toNat) (fun j a b => ⟨e j a b, rfl⟩), rdW_c (R := mRf (kRho σ) (-1)) (R' := mRf (kRho σ) k) (n := (q + 1).toNat) (fun j a b => ⟨e j a b, rfl⟩), rdH_c (R := mRf (kRho σ) (-1)) (R' := mRf (kRho σ) k) (n := (q + 1).toNat) e]
theorem st_worth {σ τ υ : zS} {r1 r2 : Int} (h : jInv σ)  (p : (¬ (σ (40 + σ 32 7) 0 = 1 ∧ σ (40 + σ 32 8) 0 = 1) → r1 = -3) ∧ (σ (40 + σ 32 7) 0 = 1 ∧ σ (40 + σ 32 8) 0 = 1 → ¬ (kPl σ ∧ kNoR σ) → r1 = -5) ∧ (σ (40 + σ 32 7) 0 = 1 ∧ σ (40 + σ 32 8) 0 = 1 → kPl σ → kNoR σ → (kAll σ → r1 = -6) ∧ (∀ q : Int, 0 ≤ q → q < σ 32 12 → kY (kRho σ) (-1) q ≠ -6 → (∀ j : Int, 0 ≤ j → j < q → kY (kRho σ) (-1) j = -6) → ((r1 = -6 ∧ ∀ s : Int, 0 ≤ s → s ≤ q → ¬ kAllR σ s) ∨ (0 ≤ r1 ∧ r1 ≤ q ∧ kAllR σ r1 ∧ ∀ s : Int, 0 ≤ s → s < r1 → ¬ kAllR σ s)))) ∧ (∀ k : Int, k < 6 ∨ 14 < k → τ k = σ k)) (q : (¬ (mBit (τ 100 0) (τ 100 5) = 1 ∧ mBit (τ 100 0) (τ 100 6) = 1 ∧ τ 100 5 ≠ τ 100 6) → r2 = -3) ∧ (mBit (τ 100 0) (τ 100 5) = 1 ∧ mBit (τ 100 0) (τ 100 6) = 1 ∧ τ 100 5 ≠ τ 100 6 → ¬ (jPl τ ∧ jNoR τ) → r2 = -5) ∧ (mBit (τ 100 0) (τ 100 5) = 1 ∧ mBit (τ 100 0) (τ 100 6) = 1 ∧ τ 100 5 ≠ τ 100 6 → jPl τ → jNoR τ → ((∃ ρ : zS, jYes τ ρ) ∧ r2 = -6) ∨ ((∃ (ρ : zS) (q : Int), jPln τ ρ ∧ 0 ≤ q ∧ q < τ 100 11 ∧ jY ρ q ≠ -6) ∧ ((r2 = -6 ∧ ∀ j : Int, 0 ≤ j → j < τ 100 11 → jBdR τ j) ∨ (0 ≤ r2 ∧ r2 < τ 100 11 ∧ jGdR τ r2 ∧ ∀ j : Int, 0 ≤ j → j < r2 → jBdR τ j)))) ∧ jFr τ υ) : r1 = r2 ∧ jInv υ := by
  have f := fr_worth p
  have t := tPl h f
  have se := tSe h f
  have tn := tNoR h f
  refine ⟨?_, iv_fin h f q.2.2.2⟩
  by_cases c1 : σ (40 + σ 32 7) 0 = 1 ∧ σ (40 + σ 32 8) 0 = 1
  · have d1 := se.1 c1
    by_cases c2 : kPl σ ∧ kNoR σ
    · have d2 : jPl τ ∧ jNoR τ := ⟨t.2.2.2 c2.1, tn.2 c2.2⟩
      have p3 := p.2.2.1 c1 c2.1 c2.2
      rcases q.2.2.1 d1 d2.1 d2.2 with ⟨⟨ρ, y⟩, e⟩ | ⟨⟨ρ, x, hp, x1, x2, x3⟩, g⟩
      · rw [p3.1 (tYes h f y).2.1, e]
      · rw [t.2.1] at x2 g
        have k := (jP_k h (tPln h f hp)).2 x x1 x2
        rcases kFirst (kY (kRho σ) (-1)) (σ 32 12).toNat with ha | ⟨z, z1, z2, z3, z4⟩
        · exact absurd (k.trans (ha x x1 (by omega))) x3
        · rcases p3.2 z z1 (by omega) z3 z4 with ⟨e1, n1⟩ | ⟨e1, e2, e3, n1⟩
          · rcases g with ⟨e4, _⟩ | ⟨e4, e5, e6, _⟩
            · rw [e1, e4]
            · exfalso
              have gd := tGd h f c2.2 e6
              by_cases hr : r2 ≤ z
              · exact n1 r2 e4 hr gd
              · exact kBehind ⟨z1, by omega⟩ z3 (by omega) gd
          · rcases g with ⟨e4, n2⟩ | ⟨e4, e5, e6, n2⟩
            · exact absurd e3 (tBd h f c2.2 (n2 r1 e1 (by omega)))
            · rcases Int.lt_trichotomy r1 r2 with q1 | q1 | q1
              · exact absurd e3 (tBd h f c2.2 (n2 r1 e1 q1))
              · exact q1
              · exact absurd (tGd h f c2.2 e6) (n1 r2 e4 q1)
    · rw [p.2.1 c1 c2, q.2.1 d1 (fun z => c2 ⟨t.2.2.1 z.1, tn.1 z.2⟩)]
  · rw [p.1 c1, q.1 (fun z => c1 (se.2 z))]