theorem jsum_b {f : Int → Int} : ∀ {n : Nat}, (∀ j : Int, 0 ≤ j → j < n → 0 ≤ f j ∧ f j ≤ 80) → 0 ≤ mSum f n ∧ mSum f n ≤ 80 * n
  | 0, _ => ⟨Int.le_refl _, Int.le_refl _⟩
  | n + 1, h => by
    have h1 := jsum_b (n := n) (fun j a b => h j a (by omega))
    have h2 := h n (by omega) (by omega)
    have e : mSum f (n + 1) = mSum f n + f n := mSum_s f (i := (n : Int)) (by omega)
    omega
theorem jrdS_b {pz : Int} {R T : Int → Int} (hp : 0 ≤ pz ∧ pz ≤ 99) (hT : ∀ j : Int, 0 ≤ T j ∧ T j ≤ 241) : ∀ n : Nat, 0 ≤ rdS pz R T n ∧ rdS pz R T n ≤ 340 * n
  | 0 => ⟨Int.le_refl _, Int.le_refl _⟩
  | n + 1 => by
    have h1 := jrdS_b (R := R) hp hT n
    have h2 := hT n
    show 0 ≤ (if R (n : Int) = 1 then rdS pz R T n + pz else rdS pz R T n) + T n ∧ (if R (n : Int) = 1 then rdS pz R T n + pz else rdS pz R T n) + T n ≤ _
    split <;> omega
theorem jrdW_b {w0 : Int} {R E : Int → Int} (h : 0 ≤ w0 ∧ w0 ≤ 9) : ∀ n : Nat, rdW w0 R E n ≤ 9
  | 0 => h.2
  | n + 1 => by
    show mWind w0 _ _ ≤ 9
    unfold mWind
    omega
theorem jWhy_ok {a b c d : Int} (h : mWhy a b c d = -6) : 0 ≤ a ∧ 0 ≤ b ∧ c ≤ d := by
  unfold mWhy at h
  omega
theorem jrdH_b {R G : Int → Int} : ∀ n : Nat, 0 ≤ rdH R G n
  | 0 => Int.le_refl _
  | n + 1 => by
    show 0 ≤ mHeat (if R (n : Int) = 1 then 0 else rdH R G n) (G n)
    have h1 := jrdH_b (R := R) (G := G) n
    unfold mHeat
    repeat' split
    all_goals omega
theorem jOk_b {σ τ : zS} {k : Int} (hse : (0 ≤ σ 100 5 ∧ σ 100 5 ≤ 3) ∧ (0 ≤ σ 100 6 ∧ σ 100 6 ≤ 3)) (hrd : ∀ r : Int, 0 ≤ r → r ≤ 3 → (0 ≤ σ 101 r ∧ σ 101 r ≤ 20) ∧ (0 ≤ σ 102 r ∧ σ 102 r ≤ 10) ∧ (0 ≤ σ 103 r ∧ σ 103 r ≤ 9)) (hho : 5 ≤ σ 100 7 ∧ σ 100 7 ≤ 20) (hpz : 0 ≤ σ 100 8 ∧ σ 100 8 ≤ 99) (hpl : ∀ i : Int, 0 ≤ i → i < k → ((σ 111 i = 0 ∨ σ 111 i = 1) ∧ (0 ≤ σ 112 i ∧ σ 112 i ≤ 4) ∧ (0 ≤ σ 113 i ∧ σ 113 i ≤ 4) ∧ (4 ≤ σ 114 i ∧ σ 114 i ≤ 10)) ∧ 0 ≤ σ 105 i ∧ σ 105 i ≤ 200) (hk : 0 ≤ k ∧ k ≤ 24) (hO : jOk σ τ k) : (0 ≤ τ 100 26 ∧ τ 100 26 ≤ 9) ∧ (0 ≤ τ 100 27 ∧ τ 100 27 ≤ 9) ∧ (0 ≤ τ 100 28 ∧ τ 100 28 ≤ 20) ∧ (0 ≤ τ 100 25 ∧ τ 100 25 ≤ 10000) ∧ (0 ≤ τ 100 29 ∧ τ 100 29 ≤ 10000) ∧ (0 ≤ τ 100 30 ∧ τ 100 30 ≤ 10000) := by
  obtain ⟨o23, o24, o25, o26, o27, o28, o29, o30, oY⟩ := hO
  have hf := hrd _ hse.1.1 hse.1.2
  have hb := hrd _ hse.2.1 hse.2.2
  have s25 := jrdS_b (R := σ 111) (T := jT σ) hpz (fun j => by have := mSec_b (h := mHard (mSort (σ 105 j))) (t := jTF σ j + jTB σ j) (by have := mHard_b (mSort (σ 105 j)); omega); unfold jT; omega) k.toNat
  have s29 := jsum_b (f := jTF σ) (n := k.toNat) (fun j h1 h2 => mTread_b hf.1 hf.2.1 (hpl j h1 (by omega)).1.2.1 (hpl j h1 (by omega)).1.2.2.2)
  have s30 := jsum_b (f := jTB σ) (n := k.toNat) (fun j h1 h2 => mTread_b hb.1 hb.2.1 (hpl j h1 (by omega)).1.2.2.1 (hpl j h1 (by omega)).1.2.2.2)
  have s26 := jrdW_b (R := σ 111) (E := σ 112) hf.2.2 k.toNat
  have s27 := jrdW_b (R := σ 111) (E := σ 113) hb.2.2 k.toNat
  have s28 := jrdH_b (R := σ 111) (G := fun i => mSort (σ 105 i)) k.toNat
  have t : 0 ≤ jWF σ k.toNat ∧ 0 ≤ jWB σ k.toNat ∧ jH σ k.toNat ≤ 20 := by
    by_cases h0 : k = 0
    · subst h0
      exact ⟨hf.2.2.1, hb.2.2.1, by show (0 : Int) ≤ 20; omega⟩
    · have h := jWhy_ok (oY (k - 1) (by omega) (by omega))
      rw [show k - 1 + 1 = k by omega] at h
      exact ⟨h.1, h.2.1, by omega⟩
  rw [← jS] at s25
  rw [← jWF] at s26
  rw [← jWB] at s27
  rw [← jH] at s28
  omega