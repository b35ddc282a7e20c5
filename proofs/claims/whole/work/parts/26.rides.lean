def kRho (σ : zS) : zS := fun k j => if k = 6 then mRst (mSg σ) j else if k = 7 then mEF (mSg σ) j else if k = 8 then mEB (mSg σ) j else if k = 9 then mBt (mSg σ) j else σ k j
def kPl (σ : zS) : Prop := mRd (mSg σ) (σ 32 12) (σ 3 1) (σ 32 12).toNat 0 = -6
def kAll (σ : zS) : Prop := ∀ j : Int, 0 ≤ j → j < σ 32 12 → kY (kRho σ) (-1) j = -6
theorem kRho_c (σ : zS) {k : Int} (h : k < 6 ∨ 9 < k) : kRho σ k = σ k := by
  funext j
  unfold kRho
  rw [if_neg (by omega), if_neg (by omega), if_neg (by omega), if_neg (by omega)]
theorem mRd_ok {g : Int → Int} {n len : Int} (hn : 0 ≤ n) (h : mRd g n len n.toNat 0 = -6) (hb : ∀ i : Int, 0 ≤ i → 0 ≤ mQ g i) : ∀ i : Int, 0 ≤ i → i < n → (0 ≤ mEF g i ∧ mEF g i ≤ 4) ∧ (0 ≤ mEB g i ∧ mEB g i ≤ 4) ∧ (4 ≤ mBt g i ∧ mBt g i ≤ 10) := by
  have key : ∀ (k : Nat) (i : Int), 0 ≤ i → i + k = n → mRd g n len k i = -6 → ∀ j : Int, i ≤ j → j < n → (0 ≤ mEF g j ∧ mEF g j ≤ 4) ∧ (0 ≤ mEB g j ∧ mEB g j ≤ 4) ∧ (4 ≤ mBt g j ∧ mBt g j ≤ 10) := by
    intro k
    induction k with
    | zero => intro i h1 h2 h3 j h4 h5; omega
    | succ k ih =>
      intro i h1 h2 h3 j h4 h5
      have hq := hb i h1
      unfold mRd at h3
      by_cases c1 : 0 ≤ mEF g i ∧ mEF g i ≤ 4
      · rw [if_pos c1] at h3
        by_cases c2 : 0 ≤ mEB g i ∧ mEB g i ≤ 4
        · rw [if_pos c2] at h3
          by_cases c3 : 4 ≤ mBt g i ∧ mBt g i ≤ 10
          · rw [if_pos c3] at h3
            by_cases hj : j = i
            · subst hj
              exact ⟨c1, c2, c3⟩
            · exact ih (i + 1) (by omega) (by omega) h3 j (by omega) h5
          · rw [if_neg c3] at h3; omega
        · rw [if_neg c2] at h3; omega
      · rw [if_neg c1] at h3; omega
  exact key n.toNat 0 (by omega) (by omega) h
theorem mPl_b (g : Int → Int) : ∀ n : Nat, 0 ≤ mPl g n
  | 0 => Int.le_refl _
  | n + 1 => by
    have := mPl_b g n
    show 0 ≤ mPl g n + (if g (mPl g n) = 82 then 1 else 0) + 3
    split <;> omega
theorem mQ_b (g : Int → Int) (i : Int) : 0 ≤ mQ g i := by
  have h1 := mPl_b g i.toNat
  have h2 := mRst_or g i
  unfold mQ
  omega
theorem rdW_c {w0 : Int} {R R' E E' : Int → Int} : ∀ {n : Nat}, (∀ j : Int, 0 ≤ j → j < n → R j = R' j ∧ E j = E' j) → rdW w0 R E n = rdW w0 R' E' n
  | 0, _ => rfl
  | n + 1, h => by
    have hn := h n (by omega) (by omega)
    show mWind w0 (if R n = 1 then w0 else rdW w0 R E n) (E n) = mWind w0 (if R' n = 1 then w0 else rdW w0 R' E' n) (E' n)
    rw [hn.1, hn.2, rdW_c (n := n) (fun j h1 h2 => h j h1 (by omega))]
theorem rdH_c {R R' G : Int → Int} : ∀ {n : Nat}, (∀ j : Int, 0 ≤ j → j < n → R j = R' j) → rdH R G n = rdH R' G n
  | 0, _ => rfl
  | n + 1, h => by
    show mHeat (if R n = 1 then 0 else rdH R G n) (G n) = mHeat (if R' n = 1 then 0 else rdH R' G n) (G n)
    rw [h n (by omega) (by omega), rdH_c (n := n) (fun j h1 h2 => h j h1 (by omega))]
theorem rdS_c {pz : Int} {R R' T T' : Int → Int} : ∀ {n : Nat}, (∀ j : Int, 0 ≤ j → j < n → R j = R' j ∧ T j = T' j) → rdS pz R T n = rdS pz R' T' n
  | 0, _ => rfl
  | n + 1, h => by
    have hn := h n (by omega) (by omega)
    show (if R n = 1 then rdS pz R T n + pz else rdS pz R T n) + T n = (if R' n = 1 then rdS pz R' T' n + pz else rdS pz R' T' n) + T' n
    rw [hn.1, hn.2, rdS_c (n := n) (fun j h1 h2 => h j h1 (by omega))]
def kLike (σ ρ : zS) : Prop := (∀ k : Int, k < 6 ∨ 14 < k → σ k = ρ k) ∧ (∀ j : Int, 0 ≤ j → j < ρ 32 12 → σ 6 j = ρ 6 j ∧ σ 7 j = ρ 7 j ∧ σ 8 j = ρ 8 j ∧ σ 9 j = ρ 9 j)
theorem kLike_e {σ ρ : zS} (h : kLike σ ρ) (hse : (0 ≤ ρ 32 7 ∧ ρ 32 7 ≤ 3) ∧ (0 ≤ ρ 32 8 ∧ ρ 32 8 ≤ 3)) (rm : Int) : (∀ n : Nat, n ≤ ρ 32 12 → kWF σ rm n = kWF ρ rm n ∧ kWB σ rm n = kWB ρ rm n ∧ kH σ rm n = kH ρ rm n ∧ kS σ rm n = kS ρ rm n ∧ mSum (kTF σ) n = mSum (kTF ρ) n ∧ mSum (kTB σ) n = mSum (kTB ρ) n ∧ mSum (kUf σ) n = mSum (kUf ρ) n) ∧ (∀ j : Int, 0 ≤ j → j < ρ 32 12 → kY σ rm j = kY ρ rm j) := by
  have e32 := h.1 32 (by omega)
  have e35 := h.1 35 (by omega)
  have eF := h.1 (40 + ρ 32 7) (by omega)
  have eB := h.1 (40 + ρ 32 8) (by omega)
  have hR : ∀ j : Int, 0 ≤ j → j < ρ 32 12 → mRf σ rm j = mRf ρ rm j := fun j h1 h2 => by unfold mRf; rw [(h.2 j h1 h2).1]
  have hTF : ∀ j : Int, 0 ≤ j → j < ρ 32 12 → kTF σ j = kTF ρ j := fun j h1 h2 => by unfold kTF; rw [e32, eF, (h.2 j h1 h2).2.1, (h.2 j h1 h2).2.2.2]
  have hTB : ∀ j : Int, 0 ≤ j → j < ρ 32 12 → kTB σ j = kTB ρ j := fun j h1 h2 => by unfold kTB; rw [e32, eB, (h.2 j h1 h2).2.2.1, (h.2 j h1 h2).2.2.2]
  have hT : ∀ j : Int, 0 ≤ j → j < ρ 32 12 → kT σ j = kT ρ j := fun j h1 h2 => by unfold kT; rw [e35, hTF j h1 h2, hTB j h1 h2]
  have hW : ∀ n : Nat, n ≤ ρ 32 12 → kWF σ rm n = kWF ρ rm n ∧ kWB σ rm n = kWB ρ rm n ∧ kH σ rm n = kH ρ rm n := fun n hn => by
    refine ⟨?_, ?_, ?_⟩
    · unfold kWF
      rw [e32, eF]
      exact rdW_c (fun j h1 h2 => ⟨hR j h1 (by omega), (h.2 j h1 (by omega)).2.1⟩)
    · unfold kWB
      rw [e32, eB]
      exact rdW_c (fun j h1 h2 => ⟨hR j h1 (by omega), (h.2 j h1 (by omega)).2.2.1⟩)
    · unfold kH
      rw [e35]
      exact rdH_c (fun j h1 h2 => hR j h1 (by omega))
  refine ⟨fun n hn => ⟨(hW n hn).1, (hW n hn).2.1, (hW n hn).2.2, ?_, ?_, ?_, ?_⟩, fun j h1 h2 => ?_⟩
  · unfold kS
    rw [e32]
    exact rdS_c (fun j h1 h2 => ⟨hR j h1 (by omega), hT j h1 (by omega)⟩)
  · exact mSum_c (fun j h1 h2 => hTF j h1 (by omega))
  · exact mSum_c (fun j h1 h2 => hTB j h1 (by omega))
  · exact mSum_c (fun j h1 h2 => by unfold kUf; rw [e35, hTF j h1 (by omega), hTB j h1 (by omega)])
  · have hj := hW (j + 1).toNat (by omega)
    unfold kY
    rw [hj.1, hj.2.1, hj.2.2, e32]
theorem kGo_like {σ ρ τ : zS} {rm : Int} (h : kLike σ ρ) (hse : (0 ≤ ρ 32 7 ∧ ρ 32 7 ≤ 3) ∧ (0 ≤ ρ 32 8 ∧ ρ 32 8 ≤ 3)) (hn : 1 ≤ ρ 32 12 ∧ ρ 32 12 ≤ 24) (g : kGo σ τ rm) : ((∀ j : Int, 0 ≤ j → j < ρ 32 12 → kY ρ rm j = -6) → kA ρ τ (ρ 32 12).toNat ∧ kD ρ τ rm (ρ 32 12)) ∧ (∀ q : Int, 0 ≤ q → q < ρ 32 12 → kY ρ rm q ≠ -6 → (∀ j : Int, 0 ≤ j → j < q → kY ρ rm j = -6) → τ 10 4 = q ∧ τ 10 5 = kY ρ rm q) := by
  have e := kLike_e h hse rm
  have e12 : σ 32 12 = ρ 32 12 := by rw [h.1 32 (by omega)]
  obtain ⟨g1, g2, g3⟩ := g
  rw [e12] at g2 g3
  refine ⟨fun ha => ?_, fun q h1 h2 h3 h4 => ?_⟩
  · obtain ⟨hA, hD⟩ := g2 (fun j h1 h2 => (e.2 j h1 h2).trans (ha j h1 h2))
    have en := e.1 (ρ 32 12).toNat (by omega)
    refine ⟨⟨hA.1, hA.2.1, hA.2.2.1.trans en.2.2.2.2.1, hA.2.2.2.1.trans en.2.2.2.2.2.1, hA.2.2.2.2.trans en.2.2.2.2.2.2⟩, fun j h1 h2 => ?_⟩
    have ej := e.1 (j + 1).toNat (by omega)
    have d := hD j h1 h2
    exact ⟨d.1.trans ej.2.2.2.1, d.2.1.trans ej.1, d.2.2.1.trans ej.2.1, d.2.2.2.trans ej.2.2.1⟩
  · have := g3 q h1 h2 (by rw [e.2 q h1 h2]; exact h3) (fun j h5 h6 => by rw [e.2 j h5 (by omega)]; exact h4 j h5 h6)
    exact ⟨this.1, this.2.trans (e.2 q h1 h2)⟩
