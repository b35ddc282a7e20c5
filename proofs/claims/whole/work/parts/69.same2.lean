theorem jInv_m {σ υ : zS} (h : jInv σ) (f : ∀ c : Int, (48 ≤ c ∧ c ≤ 75) ∨ c = 2 ∨ c = 15 ∨ c = 21 ∨ c = 22 ∨ c = 115 ∨ c = 118 ∨ c = 119 → υ c = σ c) (a : sOK υ 32 40 34 35 36 37 38 39) (b : pOK υ) (c : jEq υ) (d : pEq υ) : jInv υ := by
  obtain ⟨_, _, _, _, h5, h6, h7, h8, h9⟩ := h
  refine ⟨a, b, c, d, sIm_c h5 (fun c hc => f c (by omega)) (by rw [f 2 (by omega)]) (by rw [f 119 (by omega)]) (fun i _ _ => by rw [f 118 (by omega)]), sIm_c h6 (fun c hc => f c (by omega)) (by rw [f 2 (by omega)]) (by rw [f 119 (by omega)]) (fun i _ _ => by rw [f 118 (by omega)]), kBf_c h7 (by rw [f 15 (by omega)]; exact ⟨rfl, rfl⟩) (f 21 (by omega)) (f 22 (by omega)), ?_, ?_⟩
  · unfold kCb
    rw [f 15 (by omega)]
    exact h8
  · unfold jBd
    rw [f 115 (by omega)]
    exact h9
theorem mSetB_b4 {a b c d : Int} (ha : a = 0 ∨ a = 1) (hb : b = 0 ∨ b = 1) (hc : c = 0 ∨ c = 1) (hd : d = 0 ∨ d = 1) : mSetB (a + 2 * b + 4 * c + 8 * d) 0 = 1 + 2 * b + 4 * c + 8 * d ∧ mSetB (a + 2 * b + 4 * c + 8 * d) 1 = a + 2 * 1 + 4 * c + 8 * d ∧ mSetB (a + 2 * b + 4 * c + 8 * d) 2 = a + 2 * b + 4 * 1 + 8 * d ∧ mSetB (a + 2 * b + 4 * c + 8 * d) 3 = a + 2 * b + 4 * c + 8 * 1 := by
  rcases ha with rfl | rfl <;> rcases hb with rfl | rfl <;> rcases hc with rfl | rfl <;> rcases hd with rfl | rfl <;> decide
theorem mClrB_b4 {a b c d : Int} (ha : a = 0 ∨ a = 1) (hb : b = 0 ∨ b = 1) (hc : c = 0 ∨ c = 1) (hd : d = 0 ∨ d = 1) : mClrB (a + 2 * b + 4 * c + 8 * d) 0 = 0 + 2 * b + 4 * c + 8 * d ∧ mClrB (a + 2 * b + 4 * c + 8 * d) 1 = a + 2 * 0 + 4 * c + 8 * d ∧ mClrB (a + 2 * b + 4 * c + 8 * d) 2 = a + 2 * b + 4 * 0 + 8 * d ∧ mClrB (a + 2 * b + 4 * c + 8 * d) 3 = a + 2 * b + 4 * c + 8 * 0 := by
  rcases ha with rfl | rfl <;> rcases hb with rfl | rfl <;> rcases hc with rfl | rfl <;> rcases hd with rfl | rfl <;> decide
theorem iv_b4 {σ : zS} (h : jInv σ) : (σ 40 0 = 0 ∨ σ 40 0 = 1) ∧ (σ 41 0 = 0 ∨ σ 41 0 = 1) ∧ (σ 42 0 = 0 ∨ σ 42 0 = 1) ∧ (σ 43 0 = 0 ∨ σ 43 0 = 1) := ⟨(h.1.1 0 (by decide) (by decide)).1, (h.1.1 1 (by decide) (by decide)).1, (h.1.1 2 (by decide) (by decide)).1, (h.1.1 3 (by decide) (by decide)).1⟩
theorem iv_set {σ υ : zS} (h : jInv σ) {rr : Int} (h1 : 0 ≤ rr) (h2 : rr ≤ 3) (e : ∀ r : Int, 0 ≤ r → r ≤ 3 → υ (40 + r) 0 = if r = rr then 1 else σ (40 + r) 0) : mBits υ = mSetB (mBits σ) rr := by
  have b := iv_b4 h
  have q := mSetB_b4 b.1 b.2.1 b.2.2.1 b.2.2.2
  have e0 : υ 40 0 = if 0 = rr then 1 else σ 40 0 := e 0 (by decide) (by decide)
  have e1 : υ 41 0 = if 1 = rr then 1 else σ 41 0 := e 1 (by decide) (by decide)
  have e2 : υ 42 0 = if 2 = rr then 1 else σ 42 0 := e 2 (by decide) (by decide)
  have e3 : υ 43 0 = if 3 = rr then 1 else σ 43 0 := e 3 (by decide) (by decide)
  unfold mBits
  rw [e0, e1, e2, e3]
  have hr : rr = 0 ∨ rr = 1 ∨ rr = 2 ∨ rr = 3 := by omega
  rcases hr with rfl | rfl | rfl | rfl
  · exact q.1.symm
  · exact q.2.1.symm
  · exact q.2.2.1.symm
  · exact q.2.2.2.symm
theorem iv_clr {σ υ : zS} (h : jInv σ) {rr : Int} (h1 : 0 ≤ rr) (h2 : rr ≤ 3) (e : ∀ r : Int, 0 ≤ r → r ≤ 3 → υ (40 + r) 0 = if r = rr then 0 else σ (40 + r) 0) : mBits υ = mClrB (mBits σ) rr := by
  have b := iv_b4 h
  have q := mClrB_b4 b.1 b.2.1 b.2.2.1 b.2.2.2
  have e0 : υ 40 0 = if 0 = rr then 0 else σ 40 0 := e 0 (by decide) (by decide)
  have e1 : υ 41 0 = if 1 = rr then 0 else σ 41 0 := e 1 (by decide) (by decide)
  have e2 : υ 42 0 = if 2 = rr then 0 else σ 42 0 := e 2 (by decide) (by decide)
  have e3 : υ 43 0 = if 3 = rr then 0 else σ 43 0 := e 3 (by decide) (by decide)
  unfold mBits
  rw [e0, e1, e2, e3]
  have hr : rr = 0 ∨ rr = 1 ∨ rr = 2 ∨ rr = 3 := by omega
  rcases hr with rfl | rfl | rfl | rfl
  · exact q.1.symm
  · exact q.2.1.symm
  · exact q.2.2.1.symm
  · exact q.2.2.2.symm
theorem mFWg_c {g g' : Int → Int} {n : Int} (hn : n ≤ 110) (hg : ∀ i : Int, 0 ≤ i → i < 110 → g i = g' i) : ∀ (k : Nat) {i : Int}, 0 ≤ i → mFWg g n k i = mFWg g' n k i
  | 0, _, _ => rfl
  | k + 1, i, hi => by
    unfold mFWg
    by_cases h1 : n ≤ i
    · rw [if_pos h1, if_pos h1]
    · rw [if_neg h1, if_neg h1, hg i hi (by omega), mFWg_c hn hg k (i := i + 1) (by omega)]
theorem iv_FW {σ : zS} (h : jInv σ) : mFWg (σ 110) (σ 100 18) 110 0 = mFWg (σ 4) (σ 3 1) 110 0 := by
  rw [h.2.2.2.1.1]
  exact mFWg_c h.2.1.1.2 h.2.2.2.1.2 110 (by decide)
theorem iv_Sg {σ : zS} (h : jInv σ) : mSgM σ = mSg σ := by
  funext q
  unfold mSgM mSg
  rw [h.2.2.2.1.1]
  have := h.2.1.1.2
  by_cases c : 0 ≤ q ∧ q < σ 3 1
  · rw [if_pos c, if_pos c, h.2.2.2.1.2 q c.1 (by omega)]
  · rw [if_neg c, if_neg c]
theorem cs_FW {σ τ : zS} (f : ∀ c : Int, 100 ≤ c → τ c = σ c) : mSgM τ = mSgM σ := by
  funext q
  unfold mSgM
  rw [f 100 (by omega), f 110 (by omega)]
theorem fr_rider {σ τ : zS} {r1 : Int} (rr str lik w th : Int) (p : if ¬ (0 ≤ rr ∧ rr ≤ 3) then r1 = -1 ∧ τ = σ else if ¬ (1 ≤ str ∧ str ≤ 20 ∧ 4 ≤ lik ∧ lik ≤ 10 ∧ 1 ≤ w ∧ w ≤ 9 ∧ 0 ≤ th ∧ th ≤ 50) then r1 = -2 ∧ τ = σ else τ = mCome σ (40 + rr) str lik w th ∧ r1 = mPop (mBits τ)) : ∀ c : Int, 100 ≤ c → τ c = σ c := by
  intro c hc
  (repeat' split at p) <;> (obtain ⟨p1, p2⟩ := p) <;> first | (rw [p2]; done) | (rw [p1]; unfold mCome; funext j; unfold zU; (repeat' split) <;> first | rfl | (exfalso; omega))
theorem fr_leave {σ τ : zS} {r1 : Int} (rr : Int) (p : if ¬ (0 ≤ rr ∧ rr ≤ 3 ∧ σ (40 + rr) 0 = 1) then r1 = -1 ∧ τ = σ else τ = zU σ (40 + rr) 0 0 ∧ r1 = mPop (mBits τ)) : ∀ c : Int, 100 ≤ c → τ c = σ c := by
  intro c hc
  (repeat' split at p) <;> (obtain ⟨p1, p2⟩ := p) <;> first | (rw [p2]; done) | (rw [p1]; funext j; unfold zU; (repeat' split) <;> first | rfl | (exfalso; omega))
theorem fr_seat {σ τ : zS} {r1 : Int} (f b : Int) (p : if ¬ ((0 ≤ f ∧ f ≤ 3 ∧ σ (40 + f) 0 = 1) ∧ (0 ≤ b ∧ b ≤ 3 ∧ σ (40 + b) 0 = 1) ∧ f ≠ b) then r1 = -1 ∧ τ = σ else τ = zU (zU σ 32 7 f) 32 8 b ∧ r1 = 1) : ∀ c : Int, 100 ≤ c → τ c = σ c := by
  intro c hc
  (repeat' split at p) <;> (obtain ⟨p1, p2⟩ := p) <;> first | (rw [p2]; done) | (rw [p1]; funext j; unfold zU; (repeat' split) <;> first | rfl | (exfalso; omega))
theorem fr_set {σ τ : zS} {r1 : Int} (w0 v : Int) (p : if ¬ ((w0 = 0 ∧ 5 ≤ v ∧ v ≤ 20) ∨ (w0 = 1 ∧ 0 ≤ v ∧ v ≤ 99) ∨ (w0 = 2 ∧ 0 ≤ v ∧ v ≤ 50)) then r1 = -2 ∧ τ = σ else τ = zU σ 32 (9 + w0) v ∧ r1 = σ 32 (9 + w0)) : ∀ c : Int, 100 ≤ c → τ c = σ c := by
  intro c hc
  (repeat' split at p) <;> (obtain ⟨p1, p2⟩ := p) <;> first | (rw [p2]; done) | (rw [p1]; funext j; unfold zU; (repeat' split) <;> first | rfl | (exfalso; omega))
theorem fr_say {σ τ : zS} {r1 : Int} (sg : Int) (p : if ¬ (33 ≤ sg ∧ sg ≤ 126) then r1 = -2 ∧ τ = σ else if 110 ≤ σ 3 1 then r1 = -4 ∧ τ = σ else τ = zU (zU σ 4 (σ 3 1) sg) 3 1 (σ 3 1 + 1) ∧ r1 = σ 3 1 + 1) : ∀ c : Int, 100 ≤ c → τ c = σ c := by
  intro c hc
  (repeat' split at p) <;> (obtain ⟨p1, p2⟩ := p) <;> first | (rw [p2]; done) | (rw [p1]; funext j; unfold zU; (repeat' split) <;> first | rfl | (exfalso; omega))
theorem fr_wipe {σ τ : zS} {r1 : Int}  (p : τ = zU σ 3 1 0 ∧ r1 = σ 3 1) : ∀ c : Int, 100 ≤ c → τ c = σ c := by
  intro c hc
  (repeat' split at p) <;> (obtain ⟨p1, p2⟩ := p) <;> first | (rw [p2]; done) | (rw [p1]; funext j; unfold zU; (repeat' split) <;> first | rfl | (exfalso; omega))
theorem fr_forget {σ τ : zS} {r1 : Int}  (p : τ = zU σ 32 13 0 ∧ r1 = σ 32 13) : ∀ c : Int, 100 ≤ c → τ c = σ c := by
  intro c hc
  (repeat' split at p) <;> (obtain ⟨p1, p2⟩ := p) <;> first | (rw [p2]; done) | (rw [p1]; funext j; unfold zU; (repeat' split) <;> first | rfl | (exfalso; omega))
theorem fr_way {σ τ : zS} {r1 : Int}  (p : if mFWg (σ 4) (σ 3 1) 110 0 ≠ -6 then r1 = -5 ∧ τ = σ else τ = zU (mTake σ (σ 3 1) (σ 3 1)) 3 1 0 ∧ r1 = σ 3 1) : ∀ c : Int, 100 ≤ c → τ c = σ c := by
  intro c hc
  split at p <;> (obtain ⟨p1, p2⟩ := p)
  · rw [p2]
  · rw [p1, zU_cell (by omega)]
    funext j
    unfold mTake
    rw [if_neg (by omega), if_neg (by omega), if_neg (by omega)]
theorem fr_time {σ τ : zS} {r1 : Int} (rr so ef v : Int) (p : if ¬ (0 ≤ rr ∧ rr ≤ 3 ∧ σ (40 + rr) 0 = 1) then r1 = -1 ∧ τ = σ else if ¬ ((0 ≤ so ∧ so ≤ 4) ∧ (0 ≤ ef ∧ ef ≤ 4) ∧ 1 ≤ v ∧ v ≤ 300) then r1 = -2 ∧ τ = σ else if 6 ≤ σ 32 13 then r1 = -4 ∧ τ = σ else τ = mAddT σ rr so ef v ∧ r1 = σ 32 13 + 1) : ∀ c : Int, 100 ≤ c → τ c = σ c := by
  intro c hc
  (repeat' split at p) <;> (obtain ⟨p1, p2⟩ := p) <;> first | (rw [p2]; done) | (rw [p1]; unfold mAddT; funext j; unfold zU; (repeat' split) <;> first | rfl | (exfalso; omega))
theorem fr_fault {σ τ : zS} {r1 : Int} (hw : Int) (p : (hw = 0 → r1 = mFWg (σ 4) (σ 3 1) 110 0) ∧ (hw = 1 → r1 = mRd (mSg σ) (σ 32 12) (σ 3 1) (σ 32 12).toNat 0) ∧ (hw ≠ 0 → hw ≠ 1 → r1 = -2) ∧ (∀ k : Int, k < 6 ∨ 14 < k → τ k = σ k)) : ∀ c : Int, 100 ≤ c → τ c = σ c := by
  intro c hc
  exact p.2.2.2 c (by omega)
theorem st_rider {σ τ υ : zS} {r1 r2 : Int} (h : jInv σ) (rr str lik w th : Int) (p : if ¬ (0 ≤ rr ∧ rr ≤ 3) then r1 = -1 ∧ τ = σ else if ¬ (1 ≤ str ∧ str ≤ 20 ∧ 4 ≤ lik ∧ lik ≤ 10 ∧ 1 ≤ w ∧ w ≤ 9 ∧ 0 ≤ th ∧ th ≤ 50) then r1 = -2 ∧ τ = σ else τ = mCome σ (40 + rr) str lik w th ∧ r1 = mPop (mBits τ)) (q : if ¬ (0 ≤ rr ∧ rr ≤ 3) then r2 = -1 ∧ υ = τ else if ¬ (1 ≤ str ∧ str ≤ 20 ∧ 4 ≤ lik ∧ lik ≤ 10 ∧ 1 ≤ w ∧ w ≤ 9 ∧ 0 ≤ th ∧ th ≤ 50) then r2 = -2 ∧ υ = τ else υ = mComeM τ rr str lik w th ∧ r2 = mPop (mSetB (τ 100 0) rr)) : r1 = r2 ∧ jInv υ := by
  by_cases c1 : 0 ≤ rr ∧ rr ≤ 3
  · rw [if_neg (by omega)] at p q
    by_cases c2 : 1 ≤ str ∧ str ≤ 20 ∧ 4 ≤ lik ∧ lik ≤ 10 ∧ 1 ≤ w ∧ w ≤ 9 ∧ 0 ≤ th ∧ th ≤ 50
    · rw [if_neg (by omega)] at p q
      obtain ⟨p1, p2⟩ := p
      obtain ⟨q1, q2⟩ := q
      have e100 : τ 100 = σ 100 := by rw [p1]; unfold mCome; funext j; unfold zU; (repeat' split) <;> first | rfl | (exfalso; omega)
      have t0 : ∀ r j : Int, 0 ≤ r → r ≤ 3 → τ (40 + r) j = if r = rr then (if j = 0 then 1 else if j = 1 then str else if j = 2 then lik else if j = 3 then w else if j = 4 then th else σ (40 + r) j) else σ (40 + r) j := fun r j a b => by
        rw [p1]
        unfold mCome zU
        by_cases hr : r = rr
        · subst hr
          rw [if_pos rfl]
          simp only [true_and]
          (repeat' split) <;> first | rfl | (exfalso; omega) | (subst_vars; rfl)
        · rw [if_neg hr, if_neg (by omega), if_neg (by omega), if_neg (by omega), if_neg (by omega), if_neg (by omega)]
      have u0 : ∀ c : Int, c < 100 → υ c = τ c := fun c hc => by rw [q1]; unfold mComeM; funext j; unfold zU; (repeat' split) <;> first | rfl | (exfalso; omega)
      have eb : mBits τ = mSetB (mBits σ) rr := iv_set h c1.1 c1.2 (fun r a b => by rw [t0 r 0 a b, if_pos rfl])
      have e0 : σ 100 0 = mBits σ := h.2.2.1.2.1.1
      have eu : mBits υ = mBits τ := by unfold mBits; rw [u0 40 (by decide), u0 41 (by decide), u0 42 (by decide), u0 43 (by decide)]
      refine ⟨by rw [p2, q2, e100, e0, eb], jInv_m h (fun c hc => ?_) ?_ ?_ ?_ ?_⟩
      · by_cases c100 : c < 100
        · rw [u0 c c100, p1]; unfold mCome; funext j; unfold zU; (repeat' split) <;> first | rfl | (exfalso; omega)
        · rw [q1]; unfold mComeM; rw [zU_cell (by omega), zU_cell (by omega), zU_cell (by omega), zU_cell (by omega), zU_cell (by omega), p1]; unfold mCome; funext j; unfold zU; (repeat' split) <;> first | rfl | (exfalso; omega)
      · have hs : ∀ c : Int, 32 ≤ c → c ≤ 39 → υ c = σ c := fun c a b => by rw [u0 c (by omega), p1]; unfold mCome; rw [zU_cell (by omega), zU_cell (by omega), zU_cell (by omega), zU_cell (by omega), zU_cell (by omega)]
        obtain ⟨o1, o2⟩ := h.1
        refine ⟨fun r a b => ?_, ?_⟩
        · have o := o1 r a b
          rw [u0 (40 + r) (by omega), t0 r 0 a b, t0 r 1 a b, t0 r 2 a b, t0 r 3 a b, t0 r 4 a b]
          by_cases hr : r = rr
          · simp only [if_pos hr, if_pos rfl]
            simp
            omega
          · simp only [if_neg hr]
            exact o
        · rw [hs 32 (by decide) (by decide), hs 34 (by decide) (by decide), hs 35 (by decide) (by decide), hs 36 (by decide) (by decide), hs 37 (by decide) (by decide), hs 38 (by decide) (by decide), hs 39 (by decide) (by decide)]
          exact o2
      · exact pOK_c h.2.1 (by rw [u0 3 (by decide), p1]; unfold mCome; rw [zU_cell (by omega), zU_cell (by omega), zU_cell (by omega), zU_cell (by omega), zU_cell (by omega)]) (by rw [u0 4 (by decide), p1]; unfold mCome; rw [zU_cell (by omega), zU_cell (by omega), zU_cell (by omega), zU_cell (by omega), zU_cell (by omega)])
      · obtain ⟨g1, g2, g3, g4⟩ := h.2.2.1
        have hs : ∀ c : Int, 32 ≤ c → c ≤ 39 → υ c = σ c := fun c a b => by rw [u0 c (by omega), p1]; unfold mCome; rw [zU_cell (by omega), zU_cell (by omega), zU_cell (by omega), zU_cell (by omega), zU_cell (by omega)]
        have ht : ∀ c : Int, 105 ≤ c → υ c = σ c := fun c a => by rw [q1]; unfold mComeM; rw [zU_cell (by omega), zU_cell (by omega), zU_cell (by omega), zU_cell (by omega), zU_cell (by omega), p1]; unfold mCome; rw [zU_cell (by omega), zU_cell (by omega), zU_cell (by omega), zU_cell (by omega), zU_cell (by omega)]
        have hz : ∀ j : Int, j ≠ 0 → υ 100 j = σ 100 j := fun j a => by rw [q1, ← e100]; unfold mComeM; rw [zU_place a, zU_cell (by decide), zU_cell (by decide), zU_cell (by decide), zU_cell (by decide)]
        refine ⟨fun r a b => ?_, ⟨?_, ?_⟩, ?_, ?_⟩
        · have g := g1 r a b
          rw [u0 (40 + r) (by omega), t0 r 1 a b, t0 r 2 a b, t0 r 3 a b, t0 r 4 a b]
          have v1 : υ 101 r = if r = rr then str else σ 101 r := by
            rw [q1]; unfold mComeM; rw [zU_cell (by decide), zU_cell (by decide), zU_cell (by decide), zU_cell (by decide)]; unfold zU; rw [p1]; unfold mCome; rw [zU_cell (by omega), zU_cell (by omega), zU_cell (by omega), zU_cell (by omega), zU_cell (by omega)]; simp
          have v2 : υ 102 r = if r = rr then lik else σ 102 r := by
            rw [q1]; unfold mComeM; rw [zU_cell (by decide), zU_cell (by decide), zU_cell (by decide)]; unfold zU; rw [p1]; unfold mCome; rw [zU_cell (by omega), zU_cell (by omega), zU_cell (by omega), zU_cell (by omega), zU_cell (by omega)]; simp
          have v3 : υ 103 r = if r = rr then w else σ 103 r := by
            rw [q1]; unfold mComeM; rw [zU_cell (by decide), zU_cell (by decide)]; unfold zU; rw [p1]; unfold mCome; rw [zU_cell (by omega), zU_cell (by omega), zU_cell (by omega), zU_cell (by omega), zU_cell (by omega)]; simp
          have v4 : υ 104 r = if r = rr then th else σ 104 r := by
            rw [q1]; unfold mComeM; rw [zU_cell (by decide)]; unfold zU; rw [p1]; unfold mCome; rw [zU_cell (by omega), zU_cell (by omega), zU_cell (by omega), zU_cell (by omega), zU_cell (by omega)]; simp
          rw [v1, v2, v3, v4]
          by_cases hr : r = rr
          · simp [hr]
          · simp only [if_neg hr]
            exact g
        · rw [eu, eb, q1]; unfold mComeM; rw [zU_same, e100, e0]
        · rw [hz 5 (by decide), hz 6 (by decide), hz 7 (by decide), hz 8 (by decide), hz 9 (by decide), hz 11 (by decide), hz 16 (by decide), hs 32 (by decide) (by decide)]
          exact g2.2
        · rw [ht 105 (by decide), hs 34 (by decide) (by decide)]; exact g3
        · rw [ht 106 (by decide), ht 107 (by decide), ht 108 (by decide), ht 109 (by decide), hs 36 (by decide) (by decide), hs 37 (by decide) (by decide), hs 38 (by decide) (by decide), hs 39 (by decide) (by decide)]; exact g4
      · have hz : υ 100 18 = σ 100 18 := by rw [q1, ← e100]; unfold mComeM; rw [zU_place (by decide), zU_cell (by decide), zU_cell (by decide), zU_cell (by decide), zU_cell (by decide)]
        have ht : υ 110 = σ 110 := by rw [q1]; unfold mComeM; rw [zU_cell (by omega), zU_cell (by omega), zU_cell (by omega), zU_cell (by omega), zU_cell (by omega), p1]; unfold mCome; rw [zU_cell (by omega), zU_cell (by omega), zU_cell (by omega), zU_cell (by omega), zU_cell (by omega)]
        have h3 : υ 3 = σ 3 ∧ υ 4 = σ 4 := by rw [u0 3 (by decide), u0 4 (by decide), p1]; unfold mCome; constructor <;> rw [zU_cell (by omega), zU_cell (by omega), zU_cell (by omega), zU_cell (by omega), zU_cell (by omega)]
        unfold pEq
        rw [hz, ht, h3.1, h3.2]
        exact h.2.2.2.1
    · rw [if_pos c2] at p q
      obtain ⟨p1, rfl⟩ := p
      obtain ⟨q1, rfl⟩ := q
      exact ⟨p1.trans q1.symm, h⟩
  · rw [if_pos c1] at p q
    obtain ⟨p1, rfl⟩ := p
    obtain ⟨q1, rfl⟩ := q
    exact ⟨p1.trans q1.symm, h⟩