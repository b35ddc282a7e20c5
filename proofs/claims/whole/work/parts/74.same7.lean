theorem p2i (n : Nat) : ((2 ^ n : Nat) : Int) = 2 ^ n := by simp
theorem bitN (x j : Nat) : mBit (x : Int) (j : Int) = ((x / 2 ^ j % 2 : Nat) : Int) := by
  unfold mBit
  rw [Int.toNat_natCast]
  simp
theorem bit_lo (x a j : Nat) (h : j < a) : (x + 2 ^ a) / 2 ^ j % 2 = x / 2 ^ j % 2 := by
  have e : 2 ^ a = 2 ^ j * (2 * 2 ^ (a - j - 1)) := by
    rw [← Nat.pow_succ', ← Nat.pow_add]
    congr 1
    omega
  rw [e, Nat.add_mul_div_left _ _ (Nat.two_pow_pos j), Nat.add_mul_mod_self_left]
theorem bit_hi (x a : Nat) (h : x < 2 ^ a) : (x + 2 ^ a) / 2 ^ a % 2 = 1 ∧ x / 2 ^ a % 2 = 0 := by
  rw [Nat.add_div_right _ (Nat.two_pow_pos a), Nat.div_eq_of_lt h]
  exact ⟨rfl, rfl⟩
def atN (σ : zS) (m : Nat) : Nat := (mSum (jBp σ) m).toNat
theorem atN_i (σ : zS) (m : Nat) : ((atN σ m : Nat) : Int) = mSum (jBp σ) m := by
  have := jBp_n σ m
  unfold atN
  omega
theorem atN_s (σ : zS) (m : Nat) : atN σ (m + 1) = atN σ m + (jBp σ m).toNat := by
  have h := jBp_b σ m
  have a1 := atN_i σ m
  have a2 := atN_i σ (m + 1)
  have e : mSum (jBp σ) (m + 1) = mSum (jBp σ) m + jBp σ m := rfl
  omega
theorem atN_m (σ : zS) {a b : Nat} (h : a ≤ b) : atN σ a ≤ atN σ b := by
  induction b with
  | zero =>
    have : a = 0 := by omega
    rw [this]
    exact Nat.le_refl _
  | succ b ih =>
    by_cases hb : a = b + 1
    · rw [hb]
      exact Nat.le_refl _
    · have := ih (by omega)
      have := atN_s σ b
      omega
def sOf (σ : zS) (C : Int → Int) : Nat → Nat
  | 0 => 0
  | m + 1 => sOf σ C m + if jBp σ m = 1 ∧ C m = 1 then 2 ^ atN σ m else 0
theorem sOf_p (σ : zS) {C : Int → Int} (hC : ∀ j : Int, C j = 0 ∨ C j = 1) : ∀ m : Nat, sOf σ C m < 2 ^ atN σ m ∧ ∀ i : Nat, i < m → jBp σ i = 1 → ((sOf σ C m / 2 ^ atN σ i % 2 : Nat) : Int) = C i
  | 0 => ⟨by show 0 < _; exact Nat.two_pow_pos _, fun i h => by omega⟩
  | m + 1 => by
    have ih := sOf_p σ hC m
    have hs := atN_s σ m
    have hb := jBp_b σ m
    have e : sOf σ C (m + 1) = sOf σ C m + if jBp σ m = 1 ∧ C m = 1 then 2 ^ atN σ m else 0 := rfl
    rw [e]
    rcases hb with hb | hb
    · rw [if_neg (by omega), Nat.add_zero, show atN σ (m + 1) = atN σ m by rw [hs, hb]; rfl]
      refine ⟨ih.1, fun i hi hq => ?_⟩
      by_cases hm : i = m
      · subst hm; omega
      · exact ih.2 i (by omega) hq
    · have ha : atN σ (m + 1) = atN σ m + 1 := by rw [hs, hb]; rfl
      have hi := bit_hi (sOf σ C m) (atN σ m) ih.1
      have lo : ∀ i : Nat, i < m → jBp σ i = 1 → atN σ i < atN σ m := fun i hi hq => by
        have h1 := atN_s σ i
        have h2 := atN_m σ (show i + 1 ≤ m by omega)
        rw [hq] at h1
        have : (1 : Int).toNat = 1 := rfl
        omega
      rw [ha, Nat.pow_succ]
      rcases hC m with hc | hc
      · rw [if_neg (by omega), Nat.add_zero]
        refine ⟨by have := ih.1; omega, fun i h1 h2 => ?_⟩
        by_cases hm : i = m
        · subst hm
          rw [hi.2, hc]
          rfl
        · exact ih.2 i (by omega) h2
      · rw [if_pos ⟨hb, hc⟩]
        refine ⟨by have := ih.1; omega, fun i h1 h2 => ?_⟩
        by_cases hm : i = m
        · subst hm
          rw [hi.1, hc]
          rfl
        · rw [bit_lo _ _ _ (lo i (by omega) h2)]
          exact ih.2 i (by omega) h2
theorem jCs_n2 (σ : zS) (x i : Nat) (h : jBp σ i = 1) : jCs σ (x : Int) (i : Int) = ((x / 2 ^ atN σ i % 2 : Nat) : Int) := by
  have hc : σ 105 i = 99 ∨ σ 105 i = 126 := by
    unfold jBp at h
    by_cases q : σ 105 i = 99 ∨ σ 105 i = 126
    · exact q
    · rw [if_neg q] at h; omega
  rw [jCs_y σ _ hc, Int.toNat_natCast, ← atN_i, bitN]
theorem jCs_z (σ : zS) (x : Int) (i : Int) (h : jBp σ i = 0) : jCs σ x i = 0 := by
  refine jCs_n σ x (fun q => ?_)
  unfold jBp at h
  rw [if_pos q] at h
  omega
theorem jCs_01 (σ : zS) (x i : Int) : jCs σ x i = 0 ∨ jCs σ x i = 1 := by
  unfold jCs
  split
  · exact mBit_b _ _
  · exact Or.inl rfl
theorem mSum12 (f : Int → Int) : mSum f 12 = 0 + f ((0 : Nat) : Int) + f ((1 : Nat) : Int) + f ((2 : Nat) : Int) + f ((3 : Nat) : Int) + f ((4 : Nat) : Int) + f ((5 : Nat) : Int) + f ((6 : Nat) : Int) + f ((7 : Nat) : Int) + f ((8 : Nat) : Int) + f ((9 : Nat) : Int) + f ((10 : Nat) : Int) + f ((11 : Nat) : Int) := rfl
theorem popB (x : Nat) : mPop (x : Int) = mSum (fun j => mBit (x : Int) j) 12 := by
  rw [mSum12]
  have e : ∀ j : Nat, mBit (x : Int) (j : Int) = (x : Int) / 2 ^ j % 2 := fun j => by
    unfold mBit
    rw [Int.toNat_natCast]
  rw [e, e, e, e, e, e, e, e, e, e, e, e]
  simp only [Int.reducePow]
  unfold mPop
  rw [Int.ediv_one, Int.zero_add]
theorem cnt_at (σ : zS) (x : Nat) : ∀ m : Nat, mSum (fun i => jCs σ x i) m = mSum (fun j => mBit (x : Int) j) (atN σ m)
  | 0 => rfl
  | m + 1 => by
    have ih := cnt_at σ x m
    have hs := atN_s σ m
    show mSum (fun i => jCs σ x i) m + jCs σ x m = _
    rw [ih]
    rcases jBp_b σ m with hb | hb
    · rw [show atN σ (m + 1) = atN σ m by rw [hs, hb]; rfl, jCs_z σ x m hb, Int.add_zero]
    · rw [show atN σ (m + 1) = atN σ m + 1 by rw [hs, hb]; rfl, jCs_n2 σ x m hb]
      show _ = mSum (fun j => mBit (x : Int) j) (atN σ m) + mBit (x : Int) ((atN σ m : Nat) : Int)
      rw [bitN]
theorem pop_cs (σ : zS) (x n : Nat) (hn : atN σ n ≤ 12) (hx : x < 2 ^ atN σ n) : mPop (x : Int) = mSum (fun i => jCs σ x i) n := by
  rw [cnt_at, popB, show 12 = atN σ n + (12 - atN σ n) by omega, mSum_add]
  have z : mSum (fun i => mBit (x : Int) (i + (atN σ n : Int))) (12 - atN σ n) = 0 := mSumZ (fun i a b => by
    show mBit (x : Int) (i + (atN σ n : Int)) = 0
    rw [show i + (atN σ n : Int) = ((i.toNat + atN σ n : Nat) : Int) by omega, bitN]
    have : x < 2 ^ (i.toNat + atN σ n) := Nat.lt_of_lt_of_le hx (Nat.pow_le_pow_right (by omega) (by omega))
    rw [Nat.div_eq_of_lt this]
    rfl)
  rw [z, Int.add_zero]
theorem st_mono (σ : zS) (x y : Nat) : ∀ m : Nat, x % 2 ^ atN σ m ≤ y % 2 ^ atN σ m → mSum (jStF σ x) m ≤ mSum (jStF σ y) m
  | 0, _ => Int.le_refl _
  | m + 1, h => by
    have ih := st_mono σ x y m
    have hs := atN_s σ m
    show mSum (jStF σ x) m + jStF σ x m ≤ mSum (jStF σ y) m + jStF σ y m
    rcases jBp_b σ m with hb | hb
    · rw [show atN σ (m + 1) = atN σ m by rw [hs, hb]; rfl] at h
      have e : ∀ z : Int, jStF σ z m = 0 := fun z => by unfold jStF; rw [jCs_z σ z m hb, if_neg (by decide)]
      rw [e, e]
      have := ih h
      omega
    · rw [show atN σ (m + 1) = atN σ m + 1 by rw [hs, hb]; rfl, Nat.pow_succ, Nat.mod_mul, Nat.mod_mul] at h
      have l1 := Nat.mod_lt x (Nat.two_pow_pos (atN σ m))
      have l2 := Nat.mod_lt y (Nat.two_pow_pos (atN σ m))
      have cx := jCs_n2 σ x m hb
      have cy := jCs_n2 σ y m hb
      have bx := mBS_b (jStF_b σ x) m
      have ux : jStF σ x m = if x / 2 ^ atN σ m % 2 = 1 then 2 ^ m else 0 := by
        unfold jStF
        rw [cx, Int.toNat_natCast]
        by_cases q : x / 2 ^ atN σ m % 2 = 1
        · rw [if_pos q, if_pos (by omega)]
        · rw [if_neg q, if_neg (by omega)]
      have uy : jStF σ y m = if y / 2 ^ atN σ m % 2 = 1 then 2 ^ m else 0 := by
        unfold jStF
        rw [cy, Int.toNat_natCast]
        by_cases q : y / 2 ^ atN σ m % 2 = 1
        · rw [if_pos q, if_pos (by omega)]
        · rw [if_neg q, if_neg (by omega)]
      have by' := mBS_b (jStF_b σ y) m
      rw [ux, uy]
      have px : x / 2 ^ atN σ m % 2 = 0 ∨ x / 2 ^ atN σ m % 2 = 1 := by omega
      have py : y / 2 ^ atN σ m % 2 = 0 ∨ y / 2 ^ atN σ m % 2 = 1 := by omega
      rcases px with px | px <;> rcases py with py | py
      · rw [px, py] at h
        rw [if_neg (by omega), if_neg (by omega)]
        have := ih (by omega)
        omega
      · rw [if_neg (by omega), if_pos py]
        omega
      · rw [px, py] at h
        exfalso
        omega
      · rw [px, py] at h
        rw [if_pos px, if_pos py]
        have := ih (by omega)
        omega
def kCnt (C : Int → Int) (n : Nat) : Int := mSum (fun i => if C i = 1 then 1 else 0) n
def kBts (C : Int → Int) (n : Nat) : Int := mSum (fun i => if C i = 1 then 2 ^ i.toNat else 0) n
theorem kCo_p (C : Int → Int) : ∀ n : Nat, kCo C n = 16777216 * kCnt C n + kBts C n
  | 0 => rfl
  | n + 1 => by
    have ih := kCo_p C n
    show kCo C n + (if C n = 1 then 16777216 + 2 ^ (n : Int).toNat else 0) = 16777216 * (kCnt C n + (if C n = 1 then 1 else 0)) + (kBts C n + (if C n = 1 then 2 ^ (n : Int).toNat else 0))
    rw [ih]
    split <;> omega
theorem kBts_b (C : Int → Int) {n : Nat} (h : n ≤ 24) : 0 ≤ kBts C n ∧ kBts C n < 16777216 := by
  have b := mBS_b (f := fun i => if C i = 1 then (2 : Int) ^ i.toNat else 0) (fun i _ => by
    show (if C i = 1 then (2 : Int) ^ i.toNat else 0) = 0 ∨ (if C i = 1 then (2 : Int) ^ i.toNat else 0) = 2 ^ i.toNat
    split
    · exact Or.inr rfl
    · exact Or.inl rfl) n
  have h2 : (2 : Nat) ^ n ≤ 2 ^ 24 := Nat.pow_le_pow_right (by omega) h
  have e := p2i n
  have : kBts C n = mSum (fun i => if C i = 1 then (2 : Int) ^ i.toNat else 0) n := rfl
  omega
theorem soS_cc {g g' C C' : Int → Int} : ∀ {n : Nat}, (∀ j : Int, 0 ≤ j → j < n → g j = g' j ∧ C j = C' j) → soS g C n = soS g' C' n
  | 0, _ => rfl
  | n + 1, h => by
    have hn := h n (by omega) (by omega)
    show (if C n = 1 then soS g C n else mSore (soS g C n) (g n)) = (if C' n = 1 then soS g' C' n else mSore (soS g' C' n) (g' n))
    rw [hn.1, hn.2, soS_cc (n := n) (fun j a b => h j a (by omega))]
theorem iv_cb {σ : zS} (h : jInv σ) {i : Int} (h1 : 0 ≤ i) (h2 : i < σ 32 12) : (σ 35 i = 5 ∨ σ 35 i = 6) ↔ jBp σ i = 1 := by
  have g := iv_gr h h1 h2
  unfold jBp
  rw [← g]
  constructor
  · intro q
    rw [if_pos]
    unfold mSort at q
    (repeat' split at q) <;> omega
  · intro q
    by_cases c : σ 105 i = 99 ∨ σ 105 i = 126
    · rcases c with c | c
      · rw [c]; exact Or.inl rfl
      · rw [c]; exact Or.inr rfl
    · rw [if_neg c] at q; omega
theorem iv_nb {σ : zS} (h : jInv σ) : mSum (jBp σ) (σ 32 12).toNat = mSum (fun i => if σ 35 i = 5 then 1 else 0) (σ 32 12).toNat + mSum (fun i => if σ 35 i = 6 then 1 else 0) (σ 32 12).toNat := by
  rw [← mSum_pl]
  exact mSum_c (fun i a b => by
    have c := iv_cb h a (by omega)
    have d := jBp_b σ i
    show jBp σ i = (if σ 35 i = 5 then 1 else 0) + (if σ 35 i = 6 then 1 else 0)
    by_cases c5 : σ 35 i = 5
    · rw [if_pos c5, if_neg (by omega), c.1 (Or.inl c5)]; rfl
    · rw [if_neg c5]
      by_cases c6 : σ 35 i = 6
      · rw [if_pos c6, c.1 (Or.inr c6)]; rfl
      · rw [if_neg c6]
        rcases d with d | d
        · rw [d]; rfl
        · exact absurd (c.2 d) (by omega))
def cSet (σ : zS) (x : Int) : Int → Int := fun j => if 0 ≤ j ∧ j < σ 32 12 then jCs σ x j else 0
theorem cSet_a {σ : zS} (h : jInv σ) (x : Int) : kAd (σ 35) (cSet σ x) := fun j => by
  unfold cSet
  by_cases c : 0 ≤ j ∧ j < σ 32 12
  · rw [if_pos c]
    rcases jCs_01 σ x j with q | q
    · exact Or.inl q
    · refine Or.inr ⟨q, (iv_cb h c.1 c.2).2 ?_⟩
      rcases jBp_b σ j with d | d
      · rw [jCs_z σ x j d] at q; omega
      · exact d
  · rw [if_neg c]
    exact Or.inl rfl
theorem iv_so {σ : zS} (h : jInv σ) (x : Int) {C : Int → Int} (hC : ∀ i : Int, 0 ≤ i → i < σ 32 12 → jCs σ x i = C i) {m : Nat} (hm : m ≤ (σ 32 12).toNat) : jSo σ x m = soS (σ 35) C m := soS_cc (fun j a b => ⟨iv_gr h a (by omega), hC j a (by omega)⟩)
theorem iv_bo {σ : zS} (h : jInv σ) (x mo : Int) {C : Int → Int} (hC : ∀ i : Int, 0 ≤ i → i < σ 32 12 → jCs σ x i = C i) : jBo σ x mo (σ 32 12) ↔ kVa (σ 35) C mo (σ 32 12) := by
  have o := pk_hn h
  unfold jBo kVa
  exact ⟨fun q j a b => by rw [← iv_so h x hC (by omega)]; exact q j a b, fun q j a b => by rw [iv_so h x hC (by omega)]; exact q j a b⟩
theorem iv_bt {σ : zS} (h : jInv σ) (x : Int) {C : Int → Int} (hC : ∀ i : Int, 0 ≤ i → i < σ 32 12 → jCs σ x i = C i) : mSum (jStF σ x) (σ 32 12).toNat = kBts C (σ 32 12).toNat := mSum_c (fun i a b => by unfold jStF; rw [hC i a (by omega)])
theorem iv_ct {σ : zS} (x : Int) {C : Int → Int} (hC : ∀ i : Int, 0 ≤ i → i < σ 32 12 → jCs σ x i = C i) : mSum (fun i => jCs σ x i) (σ 32 12).toNat = kCnt C (σ 32 12).toNat := mSum_c (fun i a b => by
  have q := jCs_01 σ x i
  show jCs σ x i = if C i = 1 then 1 else 0
  rw [← hC i a (by omega)]
  rcases q with q | q
  · rw [q, if_neg (by decide)]
  · rw [q, if_pos rfl])
theorem fr_calls {σ τ : zS} {r1 mo wh : Int} (p : (¬ ((0 ≤ mo ∧ mo ≤ 20) ∧ 0 ≤ wh ∧ wh ≤ 1) → r1 = -2) ∧ ((0 ≤ mo ∧ mo ≤ 20) ∧ 0 ≤ wh ∧ wh ≤ 1 → (12 < mSum (fun i => if σ 35 i = 5 then 1 else 0) (σ 32 12).toNat + mSum (fun i => if σ 35 i = 6 then 1 else 0) (σ 32 12).toNat → r1 = -4) ∧ (mSum (fun i => if σ 35 i = 5 then 1 else 0) (σ 32 12).toNat + mSum (fun i => if σ 35 i = 6 then 1 else 0) (σ 32 12).toNat ≤ 12 → ∃ C : Int → Int, kAd (σ 35) C ∧ kVa (σ 35) C mo (σ 32 12) ∧ (∀ C' : Int → Int, kAd (σ 35) C' → kVa (σ 35) C' mo (σ 32 12) → kCo C (σ 32 12).toNat ≤ kCo C' (σ 32 12).toNat) ∧ r1 = if wh = 0 then kCo C (σ 32 12).toNat / 16777216 else kCo C (σ 32 12).toNat % 16777216)) ∧ ((∀ c : Int, c ≠ 15 → c ≠ 23 → c ≠ 24 → τ c = σ c) ∧ ∀ j : Int, j ≠ 10 → j ≠ 11 → τ 15 j = σ 15 j) ∧ ((τ 15 10 = 23 ∧ τ 15 11 = 24) ∨ (τ 15 10 = 24 ∧ τ 15 11 = 23))) : (∀ c : Int, c ≠ 15 → c ≠ 23 → c ≠ 24 → τ c = σ c) := p.2.2.1.1
theorem st_calls {σ τ υ : zS} {r1 r2 : Int} (h : jInv σ) (mo wh : Int) (p : (¬ ((0 ≤ mo ∧ mo ≤ 20) ∧ 0 ≤ wh ∧ wh ≤ 1) → r1 = -2) ∧ ((0 ≤ mo ∧ mo ≤ 20) ∧ 0 ≤ wh ∧ wh ≤ 1 → (12 < mSum (fun i => if σ 35 i = 5 then 1 else 0) (σ 32 12).toNat + mSum (fun i => if σ 35 i = 6 then 1 else 0) (σ 32 12).toNat → r1 = -4) ∧ (mSum (fun i => if σ 35 i = 5 then 1 else 0) (σ 32 12).toNat + mSum (fun i => if σ 35 i = 6 then 1 else 0) (σ 32 12).toNat ≤ 12 → ∃ C : Int → Int, kAd (σ 35) C ∧ kVa (σ 35) C mo (σ 32 12) ∧ (∀ C' : Int → Int, kAd (σ 35) C' → kVa (σ 35) C' mo (σ 32 12) → kCo C (σ 32 12).toNat ≤ kCo C' (σ 32 12).toNat) ∧ r1 = if wh = 0 then kCo C (σ 32 12).toNat / 16777216 else kCo C (σ 32 12).toNat % 16777216)) ∧ ((∀ c : Int, c ≠ 15 → c ≠ 23 → c ≠ 24 → τ c = σ c) ∧ ∀ j : Int, j ≠ 10 → j ≠ 11 → τ 15 j = σ 15 j) ∧ ((τ 15 10 = 23 ∧ τ 15 11 = 24) ∨ (τ 15 10 = 24 ∧ τ 15 11 = 23))) (q : (¬ ((0 ≤ mo ∧ mo ≤ 20) ∧ 0 ≤ wh ∧ wh ≤ 1) → r2 = -2) ∧ ((0 ≤ mo ∧ mo ≤ 20) ∧ 0 ≤ wh ∧ wh ≤ 1 → (12 < mSum (jBp τ) (τ 100 11).toNat → r2 = -4) ∧ (mSum (jBp τ) (τ 100 11).toNat ≤ 12 → ∃ best : Int, 0 ≤ best ∧ jBs τ mo best (2 ^ (mSum (jBp τ) (τ 100 11).toNat).toNat) ∧ r2 = if wh = 0 then mPop best else mSum (jStF τ best) (τ 100 11).toNat)) ∧ υ = τ) : r1 = r2 ∧ jInv υ := by
  obtain ⟨p1, p2, ⟨f1, f2⟩, p4⟩ := p
  obtain ⟨q1, q2, rfl⟩ := q
  have e := iv_sc h
  have o := pk_hn h
  have e100 : υ 100 = σ 100 := f1 100 (by decide) (by decide) (by decide)
  have e105 : υ 105 = σ 105 := f1 105 (by decide) (by decide) (by decide)
  refine ⟨?_, jInv_f h (fun c hc => f1 c (by omega) (by omega) (by omega)) (fun j _ _ => by rw [e100]) (kBf_c h.2.2.2.2.2.2.1 ⟨f2 8 (by decide) (by decide), f2 9 (by decide) (by decide)⟩ (f1 21 (by decide) (by decide) (by decide)) (f1 22 (by decide) (by decide) (by decide))) p4 (by unfold jBd; rw [f1 115 (by decide) (by decide) (by decide)]; exact h.2.2.2.2.2.2.2.2)⟩
  have b1 : jBp υ = jBp σ := by funext i; unfold jBp; rw [e105]
  have b2 : jCs υ = jCs σ := by funext x i; unfold jCs; rw [e105, b1]
  have b3 : jStF υ = jStF σ := by funext x i; unfold jStF; rw [b2]
  have b4 : jBo υ = jBo σ := by
    funext x mo n
    unfold jBo jSo jGs
    rw [b2, e105]
  have b5 : jBs υ = jBs σ := by
    funext mo b s
    unfold jBs
    rw [b4, e100]
  rw [b1, b3, b5, e100, e.2.2.2.2.2.1, iv_nb h] at q2
  by_cases c1 : (0 ≤ mo ∧ mo ≤ 20) ∧ 0 ≤ wh ∧ wh ≤ 1
  · have p2' := p2 c1
    have q2' := q2 c1
    by_cases c2 : 12 < mSum (fun i => if σ 35 i = 5 then 1 else 0) (σ 32 12).toNat + mSum (fun i => if σ 35 i = 6 then 1 else 0) (σ 32 12).toNat
    · rw [p2'.1 c2, q2'.1 c2]
    · obtain ⟨C, k1, k2, k3, k4⟩ := p2'.2 (by omega)
      obtain ⟨best, l1, l2, l3⟩ := q2'.2 (by omega)
      have hat : ((atN σ (σ 32 12).toNat : Nat) : Int) = mSum (fun i => if σ 35 i = 5 then 1 else 0) (σ 32 12).toNat + mSum (fun i => if σ 35 i = 6 then 1 else 0) (σ 32 12).toNat := by rw [atN_i, iv_nb h]
      have h12 : atN σ (σ 32 12).toNat ≤ 12 := by omega
      have hpw : (2 : Int) ^ (mSum (fun i => if σ 35 i = 5 then 1 else 0) (σ 32 12).toNat + mSum (fun i => if σ 35 i = 6 then 1 else 0) (σ 32 12).toNat).toNat = ((2 ^ atN σ (σ 32 12).toNat : Nat) : Int) := by
        rw [← hat, Int.toNat_natCast, p2i]
      rw [hpw] at l2
      have hC01 : ∀ j : Int, C j = 0 ∨ C j = 1 := fun j => by rcases k1 j with z | z; exact Or.inl z; exact Or.inr z.1
      have sp := sOf_p σ hC01 (σ 32 12).toNat
      have hCs : ∀ i : Int, 0 ≤ i → i < σ 32 12 → jCs σ ((sOf σ C (σ 32 12).toNat : Nat) : Int) i = C i := fun i a b => by
        rcases jBp_b σ i with d | d
        · rw [jCs_z σ _ i d]
          rcases k1 i with z | z
          · exact z.symm
          · have := (iv_cb h a b).1 z.2; omega
        · have q := sp.2 i.toNat (by omega) (by rw [Int.toNat_of_nonneg a]; exact d)
          have r := jCs_n2 σ (sOf σ C (σ 32 12).toNat) i.toNat (by rw [Int.toNat_of_nonneg a]; exact d)
          rw [Int.toNat_of_nonneg a] at q r
          rw [r, q]
      have vC : jBo σ ((sOf σ C (σ 32 12).toNat : Nat) : Int) mo (σ 100 11) := by rw [e.2.2.2.2.2.1]; exact (iv_bo h _ mo hCs).2 k2
      have rC : ((sOf σ C (σ 32 12).toNat : Nat) : Int) < ((2 ^ atN σ (σ 32 12).toNat : Nat) : Int) := by have := sp.1; omega
      rcases l2 with ⟨l2, l4⟩ | ⟨_, l5, l6, l7⟩
      · exact absurd vC (l4 _ (by omega) rC)
      · have l8 := l7 _ (by omega) rC vC
        rw [e.2.2.2.2.2.1] at l6
        obtain ⟨bn, rfl⟩ : ∃ z : Nat, best = (z : Int) := ⟨best.toNat, by omega⟩
        have hCb : ∀ i : Int, 0 ≤ i → i < σ 32 12 → jCs σ (bn : Int) i = cSet σ bn i := fun i a b => by unfold cSet; rw [if_pos ⟨a, b⟩]
        have k5 := k3 _ (cSet_a h bn) ((iv_bo h _ mo hCb).1 l6)
        rw [kCo_p, kCo_p] at k5
        have d1 := kBts_b C (n := (σ 32 12).toNat) (by omega)
        have d2 := kBts_b (cSet σ bn) (n := (σ 32 12).toNat) (by omega)
        have m1 := pop_cs σ (sOf σ C (σ 32 12).toNat) (σ 32 12).toNat h12 sp.1
        have m2 := pop_cs σ bn (σ 32 12).toNat h12 (by omega)
        rw [iv_ct _ hCs] at m1
        rw [iv_ct _ hCb] at m2
        have t1 := iv_bt h _ hCs
        have t2 := iv_bt h _ hCb
        have m3 : bn ≤ sOf σ C (σ 32 12).toNat → mSum (jStF σ bn) (σ 32 12).toNat ≤ mSum (jStF σ ((sOf σ C (σ 32 12).toNat : Nat) : Int)) (σ 32 12).toNat := fun z => st_mono σ _ _ _ (by
          have n1 := sp.1
          rw [Nat.mod_eq_of_lt (by omega), Nat.mod_eq_of_lt n1]
          exact z)
        rw [k4, l3, kCo_p, t2, m2]
        have hle : kCnt C (σ 32 12).toNat = kCnt (cSet σ bn) (σ 32 12).toNat ∧ kBts C (σ 32 12).toNat = kBts (cSet σ bn) (σ 32 12).toNat := by
          rcases l8 with z | ⟨z1, z2⟩
          · omega
          · have := m3 (by omega)
            omega
        by_cases cw : wh = 0
        · rw [if_pos cw, if_pos cw]; omega
        · rw [if_neg cw, if_neg cw]; omega
  · rw [p1 c1, q1 c1]