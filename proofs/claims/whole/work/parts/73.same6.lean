theorem mSum_add (f : Int → Int) (a : Nat) : ∀ b : Nat, mSum f (a + b) = mSum f a + mSum (fun i => f (i + a)) b
  | 0 => by show mSum f a = mSum f a + 0; omega
  | b + 1 => by
    have ih := mSum_add f a b
    show mSum f (a + b) + f ((a + b : Nat) : Int) = mSum f a + (mSum (fun i => f (i + a)) b + f ((b : Int) + a))
    rw [ih, show ((a + b : Nat) : Int) = (b : Int) + a by omega]
    omega
theorem mSum_pl (f g : Int → Int) : ∀ n : Nat, mSum (fun i => f i + g i) n = mSum f n + mSum g n
  | 0 => rfl
  | n + 1 => by
    have ih := mSum_pl f g n
    show mSum (fun i => f i + g i) n + (f n + g n) = (mSum f n + f n) + (mSum g n + g n)
    rw [ih]
    omega
theorem mPop_hi : ∀ n : Nat, n < 12 → ∀ s : Nat, s < 2 ^ n → mPop ((s + 2 ^ n : Nat) : Int) = mPop (s : Int) + 1 := by decide +kernel
theorem mChN_z : ∀ (n k : Nat), n < k → mChN n k = 0
  | 0, k + 1, _ => rfl
  | n + 1, k + 1, h => by
    show mChN n k + mChN n (k + 1) = 0
    rw [mChN_z n k (by omega), mChN_z n (k + 1) (by omega)]
theorem mChN_0 : ∀ n : Nat, mChN n 0 = 1
  | 0 => rfl
  | _ + 1 => rfl
theorem mSum_sh (f : Int → Int) : ∀ n : Nat, mSum f (n + 1) = f 0 + mSum (fun i => f (i + 1)) n
  | 0 => by show 0 + f ((0 : Nat) : Int) = f 0 + 0; simp
  | n + 1 => by
    have ih := mSum_sh f n
    show mSum f (n + 1) + f ((n + 1 : Nat) : Int) = f 0 + (mSum (fun i => f (i + 1)) n + f ((n : Int) + 1))
    rw [ih, show ((n + 1 : Nat) : Int) = (n : Int) + 1 by omega]
    omega
theorem mSets : ∀ (n : Nat), n ≤ 12 → ∀ F : Int → Int, mSum (fun s => F (mPop s)) (2 ^ n) = mSum (fun k => (mChN n k.toNat : Int) * F k) (n + 1)
  | 0, _, F => by
    show 0 + F (mPop ((0 : Nat) : Int)) = 0 + ((mChN 0 ((0 : Nat) : Int).toNat : Nat) : Int) * F ((0 : Nat) : Int)
    rw [show mPop ((0 : Nat) : Int) = 0 from rfl, show ((mChN 0 ((0 : Nat) : Int).toNat : Nat) : Int) = 1 from rfl, Int.one_mul]
    rfl
  | n + 1, hn, F => by
    have i1 := mSets n (by omega) F
    have i2 := mSets n (by omega) (fun k => F (k + 1))
    rw [show 2 ^ (n + 1) = 2 ^ n + 2 ^ n by omega, mSum_add, i1]
    have e : mSum (fun i => F (mPop (i + ((2 ^ n : Nat) : Int)))) (2 ^ n) = mSum (fun s => F (mPop s + 1)) (2 ^ n) := mSum_c (fun i a b => by
      have q := mPop_hi n (by omega) i.toNat (by omega)
      rw [show ((i.toNat + 2 ^ n : Nat) : Int) = i + ((2 ^ n : Nat) : Int) by omega, Int.toNat_of_nonneg a] at q
      rw [q])
    rw [e, i2, mSum_sh (fun k => (mChN (n + 1) k.toNat : Int) * F k) (n + 1), mSum_sh (fun k => (mChN n k.toNat : Int) * F k) n]
    have z : mSum (fun i => (mChN n (i + 1).toNat : Int) * F (i + 1)) (n + 1) = mSum (fun i => (mChN n (i + 1).toNat : Int) * F (i + 1)) n := by
      show mSum (fun i => (mChN n (i + 1).toNat : Int) * F (i + 1)) n + ((mChN n ((n : Int) + 1).toNat : Nat) : Int) * F ((n : Int) + 1) = _
      rw [show ((n : Int) + 1).toNat = n + 1 by omega, mChN_z n (n + 1) (by omega)]
      simp
    have s : mSum (fun i => (mChN (n + 1) (i + 1).toNat : Int) * F (i + 1)) (n + 1) = mSum (fun i => (mChN n i.toNat : Int) * F (i + 1)) (n + 1) + mSum (fun i => (mChN n (i + 1).toNat : Int) * F (i + 1)) (n + 1) := by
      rw [← mSum_pl]
      exact mSum_c (fun i a b => by
        have e1 : (i + 1).toNat = i.toNat + 1 := by omega
        have e2 : mChN (n + 1) (i.toNat + 1) = mChN n i.toNat + mChN n (i.toNat + 1) := rfl
        rw [e1, e2, Int.natCast_add, Int.add_mul])
    rw [s, z]
    have c1 : ((mChN (n + 1) (0 : Int).toNat : Nat) : Int) = 1 := rfl
    have c2 : ((mChN n (0 : Int).toNat : Nat) : Int) = 1 := by rw [show (0 : Int).toNat = 0 from rfl, mChN_0]; rfl
    rw [c1, c2]
    omega
theorem mHome {S t n sec : Int} (hn : 0 ≤ n ∧ n ≤ 12) : mSum (jHF S t n sec) ((2 : Int) ^ n.toNat).toNat = if sec - S < 0 then 0 else mSum (mChF n t) (min n ((sec - S) / 5) + 1).toNat := by
  have e0 : ((2 : Int) ^ n.toNat).toNat = 2 ^ n.toNat := by
    have e : (2 : Int) ^ n.toNat = ((2 ^ n.toNat : Nat) : Int) := by simp
    rw [e, Int.toNat_natCast]
  have e1 := mSets n.toNat (by omega) (fun p => if S + 5 * p ≤ sec then t ^ p.toNat * (10 - t) ^ (n - p).toNat else 0)
  have e2 : mSum (jHF S t n sec) (2 ^ n.toNat) = mSum (fun s => (fun p => if S + 5 * p ≤ sec then t ^ p.toNat * (10 - t) ^ (n - p).toNat else 0) (mPop s)) (2 ^ n.toNat) := rfl
  rw [e0, e2, e1]
  by_cases hs : sec - S < 0
  · rw [if_pos hs]
    exact mSumZ (fun i a b => by
      show (mChN n.toNat i.toNat : Int) * (if S + 5 * i ≤ sec then _ else 0) = 0
      rw [if_neg (by omega), Int.mul_zero])
  · rw [if_neg hs]
    have hm : 0 ≤ (sec - S) / 5 := by omega
    have sp : n.toNat + 1 = (min n ((sec - S) / 5) + 1).toNat + (n - min n ((sec - S) / 5)).toNat := by omega
    rw [sp, mSum_add]
    have z : mSum (fun i => (mChN n.toNat (i + ((min n ((sec - S) / 5) + 1).toNat : Int)).toNat : Int) * (fun p => if S + 5 * p ≤ sec then t ^ p.toNat * (10 - t) ^ (n - p).toNat else 0) (i + ((min n ((sec - S) / 5) + 1).toNat : Int))) (n - min n ((sec - S) / 5)).toNat = 0 := mSumZ (fun i a b => by
      show (mChN n.toNat (i + ((min n ((sec - S) / 5) + 1).toNat : Int)).toNat : Int) * (if S + 5 * (i + ((min n ((sec - S) / 5) + 1).toNat : Int)) ≤ sec then _ else 0) = 0
      rw [if_neg (by omega), Int.mul_zero])
    rw [z, Int.add_zero]
    exact mSum_c (fun i a b => by
      show (mChN n.toNat i.toNat : Int) * (if S + 5 * i ≤ sec then t ^ i.toNat * (10 - t) ^ (n - i).toNat else 0) = mChF n t i
      rw [if_pos (by omega)]
      unfold mChF
      rw [Int.mul_assoc])
theorem st_home {σ τ υ : zS} {r1 r2 : Int} (h : jInv σ) (t0 sec pt : Int) (p : (¬ (σ (40 + σ 32 7) 0 = 1 ∧ σ (40 + σ 32 8) 0 = 1) → r1 = (-1000000000000000003)) ∧ (σ (40 + σ 32 7) 0 = 1 ∧ σ (40 + σ 32 8) 0 = 1 → ¬ ((0 ≤ t0 ∧ t0 ≤ 10) ∧ (0 ≤ sec ∧ sec ≤ 9999) ∧ 0 ≤ pt ∧ pt ≤ 1) → r1 = (-1000000000000000002)) ∧ (σ (40 + σ 32 7) 0 = 1 ∧ σ (40 + σ 32 8) 0 = 1 → (0 ≤ t0 ∧ t0 ≤ 10) ∧ (0 ≤ sec ∧ sec ≤ 9999) ∧ 0 ≤ pt ∧ pt ≤ 1 → ¬ (kPl σ ∧ kAll σ) → r1 = (-1000000000000000005)) ∧ (σ (40 + σ 32 7) 0 = 1 ∧ σ (40 + σ 32 8) 0 = 1 → (0 ≤ t0 ∧ t0 ≤ 10) ∧ (0 ≤ sec ∧ sec ≤ 9999) ∧ 0 ≤ pt ∧ pt ≤ 1 → kPl σ → kAll σ → r1 = if 12 < mSum (fun i => if σ 35 i = 5 then 1 else 0) (σ 32 12).toNat then (-1000000000000000004) else mFrac (if sec - kS (kRho σ) (-1) (σ 32 12).toNat < 0 then 0 else mSum (mChF (mSum (fun i => if σ 35 i = 5 then 1 else 0) (σ 32 12).toNat) t0) (min (mSum (fun i => if σ 35 i = 5 then 1 else 0) (σ 32 12).toNat) ((sec - kS (kRho σ) (-1) (σ 32 12).toNat) / 5) + 1).toNat) (10 ^ (mSum (fun i => if σ 35 i = 5 then 1 else 0) (σ 32 12).toNat).toNat) pt) ∧ (∀ k : Int, k < 6 ∨ 14 < k → τ k = σ k)) (q : (¬ (mBit (τ 100 0) (τ 100 5) = 1 ∧ mBit (τ 100 0) (τ 100 6) = 1 ∧ τ 100 5 ≠ τ 100 6) → r2 = (-1000000000000000003)) ∧ (mBit (τ 100 0) (τ 100 5) = 1 ∧ mBit (τ 100 0) (τ 100 6) = 1 ∧ τ 100 5 ≠ τ 100 6 → ¬ ((0 ≤ t0 ∧ t0 ≤ 10) ∧ (0 ≤ sec ∧ sec ≤ 9999) ∧ 0 ≤ pt ∧ pt ≤ 1) → r2 = (-1000000000000000002)) ∧ (mBit (τ 100 0) (τ 100 5) = 1 ∧ mBit (τ 100 0) (τ 100 6) = 1 ∧ τ 100 5 ≠ τ 100 6 → (0 ≤ t0 ∧ t0 ≤ 10) ∧ (0 ≤ sec ∧ sec ≤ 9999) ∧ 0 ≤ pt ∧ pt ≤ 1 → (jNo τ ∧ r2 = (-1000000000000000005)) ∨ ∃ ρ : zS, jYes τ ρ ∧ r2 = if 12 < jCn τ then (-1000000000000000004) else mFrac (mSum (jHF (jS ρ (τ 100 11).toNat) t0 (jCn τ) sec) ((2 : Int) ^ (jCn τ).toNat).toNat) (10 ^ (jCn τ).toNat) pt) ∧ jFr τ υ) : r1 = r2 ∧ jInv υ := by
  have f := fr_home p
  have t := tPl h f
  have se := tSe h f
  refine ⟨?_, iv_fin h f q.2.2.2⟩
  by_cases c1 : σ (40 + σ 32 7) 0 = 1 ∧ σ (40 + σ 32 8) 0 = 1
  · have d1 := se.1 c1
    by_cases c2 : (0 ≤ t0 ∧ t0 ≤ 10) ∧ (0 ≤ sec ∧ sec ≤ 9999) ∧ 0 ≤ pt ∧ pt ≤ 1
    · rcases q.2.2.1 d1 c2 with ⟨n, e⟩ | ⟨ρ, y, g⟩
      · rw [p.2.2.1 c1 c2 (tNo h f n), e]
      · have yk := tYes h f y
        have k := (jP_k h yk.2.2).1
        have kk := k (σ 32 12).toNat (Nat.le_refl _)
        rw [t.2.1, tCn h f, kk.2.2.2.1] at g
        rw [p.2.2.2.1 c1 c2 yk.1 yk.2.1, g]
        have cb := mCnt_b (fun i => σ 35 i = 5) (σ 32 12).toNat
        by_cases c3 : 12 < mSum (fun i => if σ 35 i = 5 then 1 else 0) (σ 32 12).toNat
        · rw [if_pos c3, if_pos c3]
        · rw [if_neg c3, if_neg c3, mHome ⟨cb.1, by omega⟩]
    · rw [p.2.1 c1 c2, q.2.1 d1 c2]
  · rw [p.1 c1, q.1 (fun z => c1 (se.2 z))]