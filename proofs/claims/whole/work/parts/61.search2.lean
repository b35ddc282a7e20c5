theorem mMnS_mono {s : Int} {f g : Int → Int} : ∀ {n : Nat}, (∀ i : Int, 0 ≤ i → i < n → f i ≤ g i ∨ s ≤ g i) → mMnS s f n ≤ mMnS s g n
  | 0, _ => Int.le_refl _
  | n + 1, h => by
    have h1 := mMnS_mono (n := n) (fun i a b => h i a (by omega))
    have h2 := h n (by omega) (by omega)
    have h3 := mMnS_le s f n
    show min (mMnS s f n) (f n) ≤ min (mMnS s g n) (g n)
    omega
theorem mWind_m {w x y e : Int} (h : x ≤ y) : mWind w x e ≤ mWind w y e := by unfold mWind; omega
theorem mWind_e {w x e f : Int} (h : f ≤ e) : mWind w x e ≤ mWind w x f := by unfold mWind; omega
theorem dpB_m {w1 w2 hot g : Int} {q : Int → Int} {V : Int → Int → Int → Int} (hV : ∀ x x' y y' h : Int, x ≤ x' → y ≤ y' → V x' y' h ≤ V x y h) {x x' y y' : Int} (hx : x ≤ x') (hy : y ≤ y') (h : Int) : dpB w1 w2 hot q g V x' y' h ≤ dpB w1 w2 hot q g V x y h := by
  unfold dpB
  apply mMnS_mono
  intro e _ _
  have a1 := mWind_m (w := w1) (e := e / 5) hx
  have a2 := mWind_m (w := w2) (e := e % 5) hy
  unfold dpF
  by_cases hc : mWind w1 x (e / 5) < 0 ∨ mWind w2 y (e % 5) < 0 ∨ hot < mHeat h g
  · rw [if_pos hc]
    exact Or.inr (Int.le_refl _)
  · rw [if_neg hc, if_neg (by omega)]
    have := hV _ _ _ _ (mHeat h g) a1 a2
    exact Or.inl (by omega)
theorem dpV_m {w1 w2 hot pz n : Int} {q : Int → Int → Int} {g : Int → Int} : ∀ (m : Nat) (x x' y y' h : Int), x ≤ x' → y ≤ y' → dpV w1 w2 hot pz q g n m x' y' h ≤ dpV w1 w2 hot pz q g n m x y h
  | 0, _, _, _, _, _, _, _ => Int.le_refl _
  | m + 1, x, x', y, y', h, hx, hy => by
    have h1 := dpB_m (w1 := w1) (w2 := w2) (hot := hot) (g := g (n - 1 - m)) (q := q (n - 1 - m)) (V := dpV w1 w2 hot pz q g n m) (fun x x' y y' h a b => dpV_m m x x' y y' h a b) hx hy h
    show min (dpB w1 w2 hot (q (n - 1 - m)) (g (n - 1 - m)) (dpV w1 w2 hot pz q g n m) x' y' h) (dpB w1 w2 hot (q (n - 1 - m)) (g (n - 1 - m)) (dpV w1 w2 hot pz q g n m) w1 w2 0 + pz) ≤ min (dpB w1 w2 hot (q (n - 1 - m)) (g (n - 1 - m)) (dpV w1 w2 hot pz q g n m) x y h) (dpB w1 w2 hot (q (n - 1 - m)) (g (n - 1 - m)) (dpV w1 w2 hot pz q g n m) w1 w2 0 + pz)
    omega
theorem mHeat_0 (g : Int) : mHeat 0 g = 2 ∨ mHeat 0 g = 5 ∨ mHeat 0 g = 0 := by
  unfold mHeat
  repeat' split
  all_goals omega
theorem dpB_fin {w1 w2 hot g : Int} (h1 : 0 ≤ w1) (h2 : 0 ≤ w2) (hh : 5 ≤ hot) (q : Int → Int) (V : Int → Int → Int → Int) : dpB w1 w2 hot q g V w1 w2 0 ≤ q 0 + V w1 w2 (mHeat 0 g) := by
  have h := mMnS_lf 1000000 (dpF w1 w2 hot q g V w1 w2 0) 25 0 (by decide) (by decide)
  have e1 : mWind w1 w1 (0 / 5) = w1 := by unfold mWind; omega
  have e2 : mWind w2 w2 (0 % 5) = w2 := by unfold mWind; omega
  have hg := mHeat_0 g
  have e : dpF w1 w2 hot q g V w1 w2 0 0 = q 0 + V w1 w2 (mHeat 0 g) := by
    unfold dpF
    rw [e1, e2, if_neg (by omega)]
  rw [e] at h
  exact h
theorem dpV_fin {w1 w2 hot pz n : Int} {q : Int → Int → Int} {g : Int → Int} (h1 : 0 ≤ w1) (h2 : 0 ≤ w2) (hh : 5 ≤ hot) (hq : ∀ k e, q k e ≤ 241) (hz : pz ≤ 99) : ∀ (m : Nat) (x y h : Int), dpV w1 w2 hot pz q g n m x y h ≤ 340 * m
  | 0, _, _, _ => Int.le_refl _
  | m + 1, x, y, h => by
    have a1 := dpB_fin (g := g (n - 1 - m)) h1 h2 hh (q (n - 1 - m)) (dpV w1 w2 hot pz q g n m)
    have a2 := dpV_fin (n := n) (g := g) h1 h2 hh hq hz m w1 w2 (mHeat 0 (g (n - 1 - m)))
    have a3 := hq (n - 1 - m) 0
    show min (dpB w1 w2 hot (q (n - 1 - m)) (g (n - 1 - m)) (dpV w1 w2 hot pz q g n m) x y h) (dpB w1 w2 hot (q (n - 1 - m)) (g (n - 1 - m)) (dpV w1 w2 hot pz q g n m) w1 w2 0 + pz) ≤ _
    omega
theorem kList {w1 w2 hot g x y h lim ct : Int} {q A C S : Int → Int} {V : Int → Int → Int → Int} {O : Int → Int → Int} (hV : ∀ x x' y y' h : Int, x ≤ x' → y ≤ y' → V x' y' h ≤ V x y h)
    (hA : ∀ c : Int, 0 ≤ c → c < ct → (0 ≤ A c ∧ A c ≤ 4) ∧ (0 ≤ C c ∧ C c ≤ 4) ∧ S c = q (5 * A c + C c)) (hE : ∀ e : Int, 0 ≤ e → e < 25 → ∃ c : Int, 0 ≤ c ∧ c < ct ∧ A c ≤ e / 5 ∧ C c ≤ e % 5 ∧ S c = q e)
    (hO : ∀ x' y' : Int, 0 ≤ x' → x' ≤ w1 → 0 ≤ y' → y' ≤ w2 → O x' y' = V x' y' (mHeat h g)) (hh : mHeat h g ≤ hot) (hl : lim ≤ 1000000 ∨ dpB w1 w2 hot q g V x y h < 1000000) :
    mMnS lim (fun c => if mWind w1 x (A c) < 0 ∨ mWind w2 y (C c) < 0 then lim else S c + O (mWind w1 x (A c)) (mWind w2 y (C c))) ct.toNat = min lim (dpB w1 w2 hot q g V x y h) := by
  have b1 : ∀ e : Int, mWind w1 x e ≤ w1 := fun e => by unfold mWind; omega
  have b2 : ∀ e : Int, mWind w2 y e ≤ w2 := fun e => by unfold mWind; omega
  have u1 := mMnS_le lim (fun c => if mWind w1 x (A c) < 0 ∨ mWind w2 y (C c) < 0 then lim else S c + O (mWind w1 x (A c)) (mWind w2 y (C c))) ct.toNat
  apply Int.le_antisymm
  · have u2 : mMnS lim (fun c => if mWind w1 x (A c) < 0 ∨ mWind w2 y (C c) < 0 then lim else S c + O (mWind w1 x (A c)) (mWind w2 y (C c))) ct.toNat ≤ dpB w1 w2 hot q g V x y h := by
      rcases mMnS_at 1000000 (dpF w1 w2 hot q g V x y h) 25 with hd | ⟨e, e1, e2, e3⟩
      · have : dpB w1 w2 hot q g V x y h = 1000000 := hd
        omega
      · have e4 : dpF w1 w2 hot q g V x y h e = dpB w1 w2 hot q g V x y h := e3
        by_cases hc : mWind w1 x (e / 5) < 0 ∨ mWind w2 y (e % 5) < 0 ∨ hot < mHeat h g
        · have : dpF w1 w2 hot q g V x y h e = 1000000 := if_pos hc
          omega
        · have e5 : dpF w1 w2 hot q g V x y h e = q e + V (mWind w1 x (e / 5)) (mWind w2 y (e % 5)) (mHeat h g) := if_neg hc
          obtain ⟨c, c1, c2, c3, c4, c5⟩ := hE e e1 e2
          have w3 := mWind_e (w := w1) (x := x) c3
          have w4 := mWind_e (w := w2) (x := y) c4
          have l := mMnS_lf lim (fun c => if mWind w1 x (A c) < 0 ∨ mWind w2 y (C c) < 0 then lim else S c + O (mWind w1 x (A c)) (mWind w2 y (C c))) ct.toNat c c1 (by omega)
          have l2 : (if mWind w1 x (A c) < 0 ∨ mWind w2 y (C c) < 0 then lim else S c + O (mWind w1 x (A c)) (mWind w2 y (C c))) = S c + O (mWind w1 x (A c)) (mWind w2 y (C c)) := if_neg (by omega)
          have l3 := hO (mWind w1 x (A c)) (mWind w2 y (C c)) (by omega) (b1 _) (by omega) (b2 _)
          have l4 := hV _ _ _ _ (mHeat h g) w3 w4
          have l5 : mMnS lim (fun c => if mWind w1 x (A c) < 0 ∨ mWind w2 y (C c) < 0 then lim else S c + O (mWind w1 x (A c)) (mWind w2 y (C c))) ct.toNat ≤ S c + O (mWind w1 x (A c)) (mWind w2 y (C c)) := Int.le_trans l (Int.le_of_eq l2)
          omega
    omega
  · rcases mMnS_at lim (fun c => if mWind w1 x (A c) < 0 ∨ mWind w2 y (C c) < 0 then lim else S c + O (mWind w1 x (A c)) (mWind w2 y (C c))) ct.toNat with hd | ⟨c, c1, c2, c3⟩
    · omega
    · have ha := hA c c1 (by omega)
      by_cases hc : mWind w1 x (A c) < 0 ∨ mWind w2 y (C c) < 0
      · have c4 : (if mWind w1 x (A c) < 0 ∨ mWind w2 y (C c) < 0 then lim else S c + O (mWind w1 x (A c)) (mWind w2 y (C c))) = lim := if_pos hc
        have c5 : (if mWind w1 x (A c) < 0 ∨ mWind w2 y (C c) < 0 then lim else S c + O (mWind w1 x (A c)) (mWind w2 y (C c))) = _ := c3
        omega
      · have c4 : (if mWind w1 x (A c) < 0 ∨ mWind w2 y (C c) < 0 then lim else S c + O (mWind w1 x (A c)) (mWind w2 y (C c))) = S c + O (mWind w1 x (A c)) (mWind w2 y (C c)) := if_neg hc
        have c5 : (if mWind w1 x (A c) < 0 ∨ mWind w2 y (C c) < 0 then lim else S c + O (mWind w1 x (A c)) (mWind w2 y (C c))) = _ := c3
        have l := mMnS_lf 1000000 (dpF w1 w2 hot q g V x y h) 25 (5 * A c + C c) (by omega) (by omega)
        have l2 : dpF w1 w2 hot q g V x y h (5 * A c + C c) = q (5 * A c + C c) + V (mWind w1 x (A c)) (mWind w2 y (C c)) (mHeat h g) := by
          unfold dpF
          rw [show (5 * A c + C c) / 5 = A c by omega, show (5 * A c + C c) % 5 = C c by omega, if_neg (by omega)]
        have l3 := hO (mWind w1 x (A c)) (mWind w2 y (C c)) (by omega) (b1 _) (by omega) (b2 _)
        have l4 : dpB w1 w2 hot q g V x y h ≤ dpF w1 w2 hot q g V x y h (5 * A c + C c) := l
        omega
def kW1 (σ : zS) : Int := σ 15 13
def kW2 (σ : zS) : Int := σ 15 14
def kQ (σ : zS) (k e : Int) : Int := mSec (mHard (σ 35 k)) (σ 16 e)
def kV (σ : zS) (m : Nat) : Int → Int → Int → Int := dpV (kW1 σ) (kW2 σ) (σ 32 9) (σ 32 10) (kQ σ) (σ 35) (σ 32 12) m
def kBk (σ : zS) (k : Int) (m : Nat) (x y h : Int) : Int := dpB (kW1 σ) (kW2 σ) (σ 32 9) (kQ σ k) (σ 35 k) (kV σ m) x y h
theorem kQ_b (σ : zS) (k e : Int) : 1 ≤ kQ σ k e ∧ kQ σ k e ≤ 241 := mSec_b (by have := mHard_b (σ 35 k); omega)
theorem kV_b {σ : zS} (hpz : 0 ≤ σ 32 10 ∧ σ 32 10 ≤ 99) (m : Nat) (x y h : Int) : 0 ≤ kV σ m x y h ∧ kV σ m x y h ≤ 1000000 := dpV_b (fun k e => by have := kQ_b σ k e; omega) hpz.1 m x y h
theorem kBk_b {σ : zS} (hpz : 0 ≤ σ 32 10 ∧ σ 32 10 ≤ 99) (k : Int) (m : Nat) (x y h : Int) : 0 ≤ kBk σ k m x y h ∧ kBk σ k m x y h ≤ 1000000 := dpB_b (fun e => by have := kQ_b σ k e; omega) (fun x y h => (kV_b hpz m x y h).1) x y h
theorem kB_fin {σ : zS} (hw1 : 0 ≤ kW1 σ) (hw2 : 0 ≤ kW2 σ) (hho : 5 ≤ σ 32 9) (hpz : 0 ≤ σ 32 10 ∧ σ 32 10 ≤ 99) (k : Int) (m : Nat) : kBk σ k m (kW1 σ) (kW2 σ) 0 ≤ 241 + 340 * m := by
  have a1 := dpB_fin (g := σ 35 k) hw1 hw2 hho (kQ σ k) (kV σ m)
  have a2 := dpV_fin (n := σ 32 12) (g := σ 35) (q := kQ σ) hw1 hw2 hho (fun k e => (kQ_b σ k e).2) hpz.2 m (kW1 σ) (kW2 σ) (mHeat 0 (σ 35 k))
  have a3 := kQ_b σ k 0
  have a4 : kV σ m (kW1 σ) (kW2 σ) (mHeat 0 (σ 35 k)) ≤ 340 * m := a2
  have a5 : kBk σ k m (kW1 σ) (kW2 σ) 0 ≤ kQ σ k 0 + kV σ m (kW1 σ) (kW2 σ) (mHeat 0 (σ 35 k)) := a1
  omega
theorem kV_s (σ : zS) {k : Int} (h : 1 ≤ k ∧ k ≤ σ 32 12 - 1) (x y hh : Int) : kV σ (σ 32 12 - k).toNat x y hh = min (kBk σ k (σ 32 12 - 1 - k).toNat x y hh) (kBk σ k (σ 32 12 - 1 - k).toNat (kW1 σ) (kW2 σ) 0 + σ 32 10) := by
  have e : (σ 32 12 - k).toNat = (σ 32 12 - 1 - k).toNat + 1 := by omega
  have e2 : σ 32 12 - 1 - (((σ 32 12 - 1 - k).toNat : Nat) : Int) = k := by omega
  rw [e]
  unfold kV
  show min (dpB _ _ _ (kQ σ (σ 32 12 - 1 - (((σ 32 12 - 1 - k).toNat : Nat) : Int))) (σ 35 (σ 32 12 - 1 - (((σ 32 12 - 1 - k).toNat : Nat) : Int))) _ x y hh) (dpB _ _ _ (kQ σ (σ 32 12 - 1 - (((σ 32 12 - 1 - k).toNat : Nat) : Int))) (σ 35 (σ 32 12 - 1 - (((σ 32 12 - 1 - k).toNat : Nat) : Int))) _ (kW1 σ) (kW2 σ) 0 + σ 32 10) = _
  rw [e2]
  rfl
def kSF (σ τ : zS) : Prop := (∀ c : Int, c < 15 ∨ c = 16 ∨ c = 20 ∨ 22 < c → τ c = σ c) ∧ ∀ j : Int, j ≠ 6 → j ≠ 8 → j ≠ 9 → τ 15 j = σ 15 j
def kBf (τ : zS) : Prop := ((τ 15 8 = 21 ∧ τ 15 9 = 22) ∨ (τ 15 8 = 22 ∧ τ 15 9 = 21)) ∧ jBd τ 21 ∧ jBd τ 22
def kN (σ τ : zS) (i : Int) (m : Nat) : Prop := ∀ x y h : Int, (0 ≤ x ∧ x ≤ kW1 σ) → (0 ≤ y ∧ y ≤ kW2 σ) → (0 ≤ h ∧ h ≤ σ 32 9) → mBit (σ 20 i) h = 1 → τ (τ 15 8) (mCell h x y) = kV σ m x y h
theorem kSF_k {σ τ : zS} (h : kSF σ τ) : kW1 τ = kW1 σ ∧ kW2 τ = kW2 σ ∧ kQ τ = kQ σ ∧ kV τ = kV σ := by
  have e1 : kW1 τ = kW1 σ := by unfold kW1; rw [h.2 13 (by omega) (by omega) (by omega)]
  have e2 : kW2 τ = kW2 σ := by unfold kW2; rw [h.2 14 (by omega) (by omega) (by omega)]
  have e3 : kQ τ = kQ σ := by funext k e; unfold kQ; rw [h.1 35 (by omega), h.1 16 (by omega)]
  refine ⟨e1, e2, e3, ?_⟩
  funext m
  unfold kV
  rw [e1, e2, e3, h.1 32 (by omega), h.1 35 (by omega)]
theorem kFO_B {σ υ : zS} {i x y h hard lim : Int} {m : Nat} (hpz : 0 ≤ σ 32 10 ∧ σ 32 10 ≤ 99) (e12 : υ 15 12 = σ 32 9) (e13 : υ 15 13 = kW1 σ) (e14 : υ 15 14 = kW2 σ) (hhd : hard = mHard (σ 35 i)) (e16 : υ 16 = σ 16) (hA : kLA υ hard (υ 15 6)) (hE : ∀ e : Int, 0 ≤ e → e < 25 → kLE υ hard (υ 15 6) e)
    (hO : mHeat h (σ 35 i) ≤ σ 32 9 → ∀ x' y' : Int, 0 ≤ x' → x' ≤ kW1 σ → 0 ≤ y' → y' ≤ kW2 σ → υ (υ 15 8) (mCell (mHeat h (σ 35 i)) x' y') = kV σ m x' y' (mHeat h (σ 35 i))) (hl : lim ≤ 1000000 ∨ kBk σ i m x y h < 1000000) :
    (if υ 15 12 < mHeat h (σ 35 i) then lim else mMnS lim (kFO υ (mHeat h (σ 35 i)) x y lim) (υ 15 6).toNat) = min lim (kBk σ i m x y h) := by
  rw [e12]
  by_cases hc : σ 32 9 < mHeat h (σ 35 i)
  · rw [if_pos hc]
    have hb := kBk_b hpz i m x y h
    have : kBk σ i m x y h = 1000000 := by
      rcases mMnS_at 1000000 (dpF (kW1 σ) (kW2 σ) (σ 32 9) (kQ σ i) (σ 35 i) (kV σ m) x y h) 25 with g | ⟨e, e1, e2, e3⟩
      · exact g
      · have e4 : dpF (kW1 σ) (kW2 σ) (σ 32 9) (kQ σ i) (σ 35 i) (kV σ m) x y h e = kBk σ i m x y h := e3
        have e5 : dpF (kW1 σ) (kW2 σ) (σ 32 9) (kQ σ i) (σ 35 i) (kV σ m) x y h e = 1000000 := if_pos (Or.inr (Or.inr hc))
        omega
    omega
  · rw [if_neg hc]
    have k := kList (w1 := kW1 σ) (w2 := kW2 σ) (hot := σ 32 9) (g := σ 35 i) (x := x) (y := y) (h := h) (lim := lim) (ct := υ 15 6) (q := kQ σ i) (A := υ 17) (C := υ 18) (S := υ 19) (V := kV σ m) (O := fun x' y' => υ (υ 15 8) (mCell (mHeat h (σ 35 i)) x' y')) (fun x x' y y' h a b => dpV_m m x x' y y' h a b)
      (fun c h1 h2 => by have := hA c h1 h2; unfold kQ; rw [← e16, ← hhd]; exact this) (fun e h1 h2 => by have := hE e h1 h2; unfold kLE at this; unfold kQ; rw [← e16, ← hhd]; exact this) (hO (by omega)) (by omega) hl
    have e : kFO υ (mHeat h (σ 35 i)) x y lim = fun c => if mWind (kW1 σ) x (υ 17 c) < 0 ∨ mWind (kW2 σ) y (υ 18 c) < 0 then lim else υ 19 c + υ (υ 15 8) (mCell (mHeat h (σ 35 i)) (mWind (kW1 σ) x (υ 17 c)) (mWind (kW2 σ) y (υ 18 c))) := by
      funext c
      unfold kFO
      rw [e13, e14]
    rw [e]
    exact k

theorem kBd_z {σ τ : zS} {c k p v : Int} (h : jBd σ c) (e : τ = zU σ k p v) (hv : 0 ≤ v ∧ v ≤ 1000000) : jBd τ c := fun j h1 h2 => by
  rw [e]
  unfold zU
  split
  · exact hv
  · exact h j h1 h2
set_option maxRecDepth 20000 in
set_option maxHeartbeats 4000000 in
theorem c_X5_stepAhead {l : Launch} {D : va_G} {Y : Nat → ClassId} {a : Int → Nat} (hI : zI a) (σ : zS) (i : Int) (hn : 1 ≤ σ 32 12 ∧ σ 32 12 ≤ 24) (hg : ∀ i : Int, 0 ≤ i → i < 24 → -1 ≤ σ 35 i ∧ σ 35 i ≤ 6) (hho : 5 ≤ σ 32 9 ∧ σ 32 9 ≤ 20) (hpz : 0 ≤ σ 32 10 ∧ σ 32 10 ≤ 99) (hq : σ 15 12 = σ 32 9) (hw1 : 0 ≤ σ 15 13 ∧ σ 15 13 ≤ 9) (hw2 : 0 ≤ σ 15 14 ∧ σ 15 14 ≤ 9) (hbf : (σ 15 8 = 21 ∧ σ 15 9 = 22) ∨ (σ 15 8 = 22 ∧ σ 15 9 = 21)) (hpt : ∀ e : Int, 0 ≤ e → e < 25 → 0 ≤ σ 16 e ∧ σ 16 e ≤ 160) (hb1 : jBd σ 21) (hb2 : jBd σ 22) (hhb : kHb σ σ (σ 32 12)) (hi : 1 ≤ i ∧ i ≤ σ 32 12 - 1) (hN : kN σ σ (i + 1) (σ 32 12 - 1 - i).toNat) : zMet l yX5_stepAhead cX5_stepAhead 9 none 3 (zPc D Y a σ [.ref (a 15), .int (iI (σ 35 i)), .int (iI (σ 20 i)), .int (iI (σ 32 10))]) (zQv D Y a (fun τ => kSF σ τ ∧ kBf τ ∧ kN σ τ i (σ 32 12 - i).toNat)) (inA a) := by
  refine z_start rfl (Nat.le_of_ble_eq_true rfl) hI ?_
  intro p e s m below meth c ls C hr hlocks hl hP
  have hS : va_S (inA a) s.heap s.heap [] := va_S.rf
  have hl : lv_has ls 9 [(0, .ref (a 15)), (1, .int (iI (σ 35 i))), (2, .int (iI (σ 20 i))), (3, .int (iI (σ 32 10)))] := hl
  have hgi := hg i (by omega) (by omega)
  have ek1 : kW1 σ = σ 15 13 := rfl
  have ek2 : kW2 σ = σ 15 14 := rfl
  have hbe : kBk σ i (σ 32 12 - 1 - i).toNat (kW1 σ) (kW2 σ) 0 = kBk σ i (σ 32 12 - 1 - i).toNat (σ 15 13) (σ 15 14) 0 := rfl
  have hw1k : 0 ≤ kW1 σ ∧ kW1 σ ≤ 9 := hw1
  have hw2k : 0 ≤ kW2 σ ∧ kW2 σ ≤ 9 := hw2
  have hki := hhb.1 i (by omega) (by omega)
  skip
  refine z_aload_n C hl 0 rfl dX5_stepAhead_0 ?_
  refine z_iload_n C hl 1 rfl dX5_stepAhead_1 ?_
  refine z_sSi C hP (As := [.int (iI (σ 35 i))]) lk_X5_85 (c_X0_hardOf hI σ (σ 35 i) ⟨by omega, by omega⟩) rfl hl.1 rfl (Nat.le_of_ble_eq_true rfl) ⟨Nat.le_of_ble_eq_true rfl, Nat.le_of_ble_eq_true rfl⟩ ⟨Nat.zero_le _, Nat.zero_le _⟩ dX5_stepAhead_2 ?_
  refine z_vQv hS C hP (As := [.int (iI (mHard (σ 35 i)))]) lk_X5_98 (c_X5_listChoices hI σ (mHard (σ 35 i)) (by have := mHard_b (σ 35 i); omega) hpt) ob_15 rfl rfl rfl hl.1 rfl (Nat.le_of_ble_eq_true rfl) ⟨Nat.le_of_ble_eq_true rfl, Nat.le_of_ble_eq_true rfl⟩ ⟨Nat.zero_le _, Nat.zero_le _⟩ dX5_stepAhead_5 (fun t2 H locs hp5 hP hS => ?_)
  have hL := hp5
  have fL := hp5.1
  have hLc := hp5.2.1
  have hLa : ∀ c : Int, 0 ≤ c → c < t2 15 6 → (0 ≤ t2 17 c ∧ t2 17 c ≤ 4) ∧ (0 ≤ t2 18 c ∧ t2 18 c ≤ 4) ∧ 0 ≤ t2 19 c ∧ t2 19 c ≤ 1000 := fun c h1 h2 => by have q := hp5.2.2.1 c h1 h2; have q2 := mSec_b (h := mHard (σ 35 i)) (t := t2 16 (5 * t2 17 c + t2 18 c)) (by have := mHard_b (σ 35 i); omega); exact ⟨q.1, q.2.1, by omega, by omega⟩
  have hfin := kB_fin hw1k.1 hw2k.1 hho.1 hpz i (σ 32 12 - 1 - i).toNat
  refine z_iload_n C hl 3 rfl dX5_stepAhead_8 ?_
  refine z_aload_n C hl 0 rfl dX5_stepAhead_9 ?_
  refine z_iconst C dX5_stepAhead_10 ?_
  refine z_iload_n C hl 1 rfl dX5_stepAhead_11 ?_
  refine z_sSi C hP (As := [.int (iI 0), .int (iI (σ 35 i))]) lk_X5_94 (c_X0_heatBehind hI t2 0 (σ 35 i) ⟨by decide, by decide⟩ ⟨by omega, by omega⟩) rfl hl.1 rfl (Nat.le_of_ble_eq_true rfl) ⟨Nat.le_of_ble_eq_true rfl, Nat.le_of_ble_eq_true rfl⟩ ⟨Nat.zero_le _, Nat.zero_le _⟩ dX5_stepAhead_12 ?_
  refine z_aload_n C hl 0 rfl dX5_stepAhead_15 ?_
  refine zg_X5_51 C hP dX5_stepAhead_16 ?_
  rw [show t2 15 13 = σ 15 13 from by rw [fL.2 13 (by omega)]]
  refine z_aload_n C hl 0 rfl dX5_stepAhead_19 ?_
  refine zg_X5_54 C hP dX5_stepAhead_20 ?_
  rw [show t2 15 14 = σ 15 14 from by rw [fL.2 14 (by omega)]]
  refine z_ldc C (z := 1000000000) wd_521 (by decide +kernel) dX5_stepAhead_23 ?_
  refine z_vSi C hP (As := [.int (iI (mHeat 0 (σ 35 i))), .int (iI (σ 15 13)), .int (iI (σ 15 14)), .int (iI 1000000000)]) lk_X5_103 (c_X5_fewestOnward hI t2 (mHeat 0 (σ 35 i)) (σ 15 13) (σ 15 14) 1000000000 (by rw [fL.2 13 (by omega)]; exact hw1) (by rw [fL.2 14 (by omega)]; exact hw2) (by rw [fL.2 8 (by omega), fL.2 9 (by omega)]; exact hbf) (by rw [fL.2 12 (by omega), hq]; exact hho) (mHeat_b (by omega)) ⟨by omega, by omega⟩ ⟨by omega, by omega⟩ ⟨by decide, by decide⟩ hLc hLa (fun j h1 h2 => by rw [fL.1 21 (by omega)]; exact hb1 j h1 h2) (fun j h1 h2 => by rw [fL.1 22 (by omega)]; exact hb2 j h1 h2)) ob_15 rfl rfl rfl hl.1 rfl (Nat.le_of_ble_eq_true rfl) ⟨Nat.le_of_ble_eq_true rfl, Nat.le_of_ble_eq_true rfl⟩ ⟨Nat.zero_le _, Nat.zero_le _⟩ dX5_stepAhead_25 ?_
  rw [kFO_B (σ := σ) (i := i) (x := σ 15 13) (y := σ 15 14) (h := 0) (lim := 1000000000) (m := (σ 32 12 - 1 - i).toNat) hpz (by rw [fL.2 12 (by omega), hq]) (by rw [fL.2 13 (by omega)]; rfl) (by rw [fL.2 14 (by omega)]; rfl) rfl (by rw [fL.1 16 (by omega)]) hL.2.2.1 hL.2.2.2 (fun q x' y' a1 a2 a3 a4 => by rw [fL.2 8 (by omega), fL.1 (σ 15 8) (by omega)]; exact hN x' y' (mHeat 0 (σ 35 i)) ⟨a1, a2⟩ ⟨a3, a4⟩ ⟨(mHeat_b (by omega)).1, q⟩ (hhb.2 i (by omega) (by omega) 0 (by omega) (by omega) (Or.inl rfl) q)) (Or.inr (show kBk σ i (σ 32 12 - 1 - i).toNat (kW1 σ) (kW2 σ) 0 < 1000000 by omega))]
  refine z_iadd C dX5_stepAhead_28 ?_
  refine z_topi (fun x3 hx3 => ?_)
  refine z_istore C [1, 2, 3, 4, 0] [(0, .ref (a 15)), (1, .int (iI (σ 35 i))), (2, .int (iI (σ 20 i))), (3, .int (iI (σ 32 10))), (4, .int (iI x3))] hl (by decide) rfl dX5_stepAhead_29 (fun ls hl => ?_)
  have hb0 := kBk_b hpz i (σ 32 12 - 1 - i).toNat (kW1 σ) (kW2 σ) 0
  have hrest : x3 = σ 32 10 + kBk σ i (σ 32 12 - 1 - i).toNat (kW1 σ) (kW2 σ) 0 := by omega
  refine z_iconst C dX5_stepAhead_31 ?_
  refine z_istore C [1, 2, 3, 4, 5, 0] [(0, .ref (a 15)), (1, .int (iI (σ 35 i))), (2, .int (iI (σ 20 i))), (3, .int (iI (σ 32 10))), (4, .int (iI x3)), (5, .int (iI 0))] hl (by decide) rfl dX5_stepAhead_32 (fun ls hl => ?_)
  have L_34 : ∀ (n : Nat) (ht : Int) (τ : zS) (H : Heap) (locs : List Loc) (hP : GP D Y a τ H) (hS : va_S (inA a) s.heap H locs) (ls : Array Slot), (0 ≤ ht ∧ ht ≤ σ 32 9 + 1) → (∀ c : Int, c ≠ σ 15 9 → τ c = t2 c) → (jBd τ 21 ∧ jBd τ 22) → (∀ x y h : Int, (0 ≤ x ∧ x ≤ kW1 σ) → (0 ≤ y ∧ y ≤ kW2 σ) → (0 ≤ h ∧ h ≤ σ 32 9) → mBit (σ 20 i) h = 1 → h < ht → τ (σ 15 9) (mCell h x y) = kV σ (σ 32 12 - i).toNat x y h) → ((σ 32 9 + 1 - ht).toNat) < n → lv_has ls 9 [(0, .ref (a 15)), (1, .int (iI (σ 35 i))), (2, .int (iI (σ 20 i))), (3, .int (iI (σ 32 10))), (4, .int (iI x3)), (5, .int (iI ht))] → W p l e (zR 3) s m ([.ref (a 15), .int (iI (σ 35 i)), .int (iI (σ 20 i)), .int (iI (σ 32 10))] : List Value).toArray below meth c H locs 0 0 (MQ below (zQv D Y a (fun τ => kSF σ τ ∧ kBf τ ∧ kN σ τ i (σ 32 12 - i).toNat)) ([.ref (a 15), .int (iI (σ 35 i)), .int (iI (σ 20 i)), .int (iI (σ 32 10))] : List Value).toArray s 0 0 (inA a)) (F0 m 34 ls []) := by
    intro n
    induction n with
    | zero =>
      intros; omega
    | succ n ih_34 =>
      intro ht τ H locs hP hS ls ja gτ bτ iT hm hl
      have hsh : 0 ≤ σ 20 i / 2 ^ ht.toNat ∧ σ 20 i / 2 ^ ht.toNat ≤ σ 20 i := ⟨Int.ediv_nonneg (by omega) (Int.le_of_lt (Int.pow_pos (by omega))), Int.ediv_le_self _ (by omega)⟩
      refine z_iload C hl 5 rfl dX5_stepAhead_34 ?_
      refine z_aload_n C hl 0 rfl dX5_stepAhead_36 ?_
      refine zg_X5_45 C hP dX5_stepAhead_37 ?_
      rw [show τ 15 12 = σ 15 12 from by rw [gτ 15 (by omega), fL.2 12 (by omega)]]
      refine z_icmp_gt C 131 dX5_stepAhead_40 (by decide) ⟨by omega, by omega⟩ ⟨by omega, by omega⟩ (fun c_40 => ?_) (fun c_40 => ?_)
      · refine z_aload_n C hl 0 rfl dX5_stepAhead_131 ?_
        refine zg_X5_30 C hP dX5_stepAhead_132 ?_
        rw [show τ 15 9 = σ 15 9 from by rw [gτ 15 (by omega), fL.2 9 (by omega)]]
        refine z_astore C [1, 2, 3, 4, 5, 0] [(0, .ref (a 15)), (1, .int (iI (σ 35 i))), (2, .int (iI (σ 20 i))), (3, .int (iI (σ 32 10))), (4, .int (iI x3)), (5, .ref (a (σ 15 9)))] hl (by decide) rfl dX5_stepAhead_135 (fun ls hl => ?_)
        refine z_aload_n C hl 0 rfl dX5_stepAhead_137 ?_
        refine z_aload_n C hl 0 rfl dX5_stepAhead_138 ?_
        refine zg_X5_27 C hP dX5_stepAhead_139 ?_
        rw [show τ 15 8 = σ 15 8 from by rw [gτ 15 (by omega), fL.2 8 (by omega)]]
        refine zp_X5_30 C hP hS dX5_stepAhead_142 (fun H locs hP hS => ?_)
        obtain ⟨t4, et4⟩ : ∃ z : zS, z = zU τ 15 9 (σ 15 8) := ⟨_, rfl⟩
        rw [← et4] at hP
        refine z_aload_n C hl 0 rfl dX5_stepAhead_145 ?_
        refine z_aload C hl 5 rfl dX5_stepAhead_146 ?_
        refine zp_X5_27 C hP hS dX5_stepAhead_148 (fun H locs hP hS => ?_)
        obtain ⟨t5, et5⟩ : ∃ z : zS, z = zU t4 15 8 (σ 15 9) := ⟨_, rfl⟩
        rw [← et5] at hP
        exact z_retQv C hP hS hr hlocks (by refine ⟨⟨fun c hc => ?_, fun j h1 h2 h3 => ?_⟩, ⟨?_, ?_, ?_⟩, ?_⟩; (rw [et5, et4, zU_cell (by omega), zU_cell (by omega), gτ c (by omega)]; exact fL.1 c (by omega)); (rw [et5, et4, zU_place h2, zU_place h3, gτ 15 (by omega)]; exact fL.2 j h1); (rw [et5, et4, zU_same, zU_place (by decide), zU_same]; omega); (intro j h1 h2; rw [et5, et4, zU_cell (by decide), zU_cell (by decide)]; exact bτ.1 j h1 h2); (intro j h1 h2; rw [et5, et4, zU_cell (by decide), zU_cell (by decide)]; exact bτ.2 j h1 h2); (intro x y h h1 h2 h3 h4; rw [et5, et4, zU_same, zU_cell (by omega), zU_cell (by omega)]; exact iT x y h h1 h2 h3 h4 (by omega))) dX5_stepAhead_151
      · refine z_iload_n C hl 2 rfl dX5_stepAhead_43 ?_
        refine z_iload C hl 5 rfl dX5_stepAhead_44 ?_
        refine z_ishr C (σ 20 i / 2 ^ ht.toNat) (z_shrb ⟨by omega, by omega⟩ ⟨by omega, by omega⟩) dX5_stepAhead_46 ?_
        refine z_iconst C dX5_stepAhead_47 ?_
        refine z_iand C (mBit (σ 20 i) ht) (z_and1 ⟨by omega, by omega⟩) dX5_stepAhead_48 ?_
        have hmb := mBit_b (σ 20 i) ht
        refine z_if_ne C 55 dX5_stepAhead_49 (by decide) ⟨by omega, by omega⟩ (fun c_49 => ?_) (fun c_49 => ?_)
        · refine z_iload C hl 5 rfl dX5_stepAhead_55 ?_
          refine z_iload_n C hl 1 rfl dX5_stepAhead_57 ?_
          refine z_sSi C hP (As := [.int (iI ht), .int (iI (σ 35 i))]) lk_X5_94 (c_X0_heatBehind hI τ ht (σ 35 i) ⟨by omega, by omega⟩ ⟨by omega, by omega⟩) rfl hl.1 rfl (Nat.le_of_ble_eq_true rfl) ⟨Nat.le_of_ble_eq_true rfl, Nat.le_of_ble_eq_true rfl⟩ ⟨Nat.zero_le _, Nat.zero_le _⟩ dX5_stepAhead_58 ?_
          have hmh := mHeat_b (h := ht) (s := σ 35 i) (by omega)
          refine z_istore C [1, 2, 3, 4, 5, 6, 0] [(0, .ref (a 15)), (1, .int (iI (σ 35 i))), (2, .int (iI (σ 20 i))), (3, .int (iI (σ 32 10))), (4, .int (iI x3)), (5, .int (iI ht)), (6, .int (iI (mHeat ht (σ 35 i))))] hl (by decide) rfl dX5_stepAhead_61 (fun ls hl => ?_)
          refine z_iconst C dX5_stepAhead_63 ?_
          refine z_istore C [1, 2, 3, 4, 5, 6, 7, 0] [(0, .ref (a 15)), (1, .int (iI (σ 35 i))), (2, .int (iI (σ 20 i))), (3, .int (iI (σ 32 10))), (4, .int (iI x3)), (5, .int (iI ht)), (6, .int (iI (mHeat ht (σ 35 i)))), (7, .int (iI 0))] hl (by decide) rfl dX5_stepAhead_64 (fun ls hl => ?_)
          have L_66 : ∀ (n : Nat) (xa : Int) (τ : zS) (H : Heap) (locs : List Loc) (hP : GP D Y a τ H) (hS : va_S (inA a) s.heap H locs) (ls : Array Slot), (0 ≤ xa ∧ xa ≤ kW1 σ + 1) → (∀ c : Int, c ≠ σ 15 9 → τ c = t2 c) → (jBd τ 21 ∧ jBd τ 22) → (∀ x y h : Int, (0 ≤ x ∧ x ≤ kW1 σ) → (0 ≤ y ∧ y ≤ kW2 σ) → (0 ≤ h ∧ h ≤ σ 32 9) → mBit (σ 20 i) h = 1 → (h < ht ∨ (h = ht ∧ x < xa)) → τ (σ 15 9) (mCell h x y) = kV σ (σ 32 12 - i).toNat x y h) → ((kW1 σ + 1 - xa).toNat) < n → lv_has ls 9 [(0, .ref (a 15)), (1, .int (iI (σ 35 i))), (2, .int (iI (σ 20 i))), (3, .int (iI (σ 32 10))), (4, .int (iI x3)), (5, .int (iI ht)), (6, .int (iI (mHeat ht (σ 35 i)))), (7, .int (iI xa))] → W p l e (zR 3) s m ([.ref (a 15), .int (iI (σ 35 i)), .int (iI (σ 20 i)), .int (iI (σ 32 10))] : List Value).toArray below meth c H locs 0 0 (MQ below (zQv D Y a (fun τ => kSF σ τ ∧ kBf τ ∧ kN σ τ i (σ 32 12 - i).toNat)) ([.ref (a 15), .int (iI (σ 35 i)), .int (iI (σ 20 i)), .int (iI (σ 32 10))] : List Value).toArray s 0 0 (inA a)) (F0 m 66 ls []) := by
            intro n
            induction n with
            | zero =>
              intros; omega
            | succ n ih_66 =>
              intro xa τ H locs hP hS ls jb gτ bτ iT hm hl
              refine z_iload C hl 7 rfl dX5_stepAhead_66 ?_
              refine z_aload_n C hl 0 rfl dX5_stepAhead_68 ?_
              refine zg_X5_51 C hP dX5_stepAhead_69 ?_
              rw [show τ 15 13 = σ 15 13 from by rw [gτ 15 (by omega), fL.2 13 (by omega)]]
              refine z_icmp_gt C 125 dX5_stepAhead_72 (by decide) ⟨by omega, by omega⟩ ⟨by omega, by omega⟩ (fun c_72 => ?_) (fun c_72 => ?_)
              · refine z_iinc C 5 [1, 2, 3, 4, 5, 0, 6, 7] [(0, .ref (a 15)), (1, .int (iI (σ 35 i))), (2, .int (iI (σ 20 i))), (3, .int (iI (σ 32 10))), (4, .int (iI x3)), (5, .int (iI (ht + 1))), (6, .int (iI (mHeat ht (σ 35 i)))), (7, .int (iI xa))] hl rfl (by decide) rfl dX5_stepAhead_125 (fun ls hl => ?_)
                refine z_goto C 34 dX5_stepAhead_128 (by decide) ?_
                exact ih_34 (ht + 1) τ H locs hP hS ls (by omega) (by exact gτ) (by exact bτ) (by intro x y h h1 h2 h3 h4 h5; exact (if hh : h = ht then (by first | (exfalso; rw [hh] at h4; omega) | exact iT x y h h1 h2 h3 h4 (by omega)) else iT x y h h1 h2 h3 h4 (by omega))) (by omega) (lv_sub hl [0, 1, 2, 3, 4, 5] rfl)
              · refine z_iconst C dX5_stepAhead_75 ?_
                refine z_istore C [1, 2, 3, 4, 5, 6, 7, 8, 0] [(0, .ref (a 15)), (1, .int (iI (σ 35 i))), (2, .int (iI (σ 20 i))), (3, .int (iI (σ 32 10))), (4, .int (iI x3)), (5, .int (iI ht)), (6, .int (iI (mHeat ht (σ 35 i)))), (7, .int (iI xa)), (8, .int (iI 0))] hl (by decide) rfl dX5_stepAhead_76 (fun ls hl => ?_)
                have L_78 : ∀ (n : Nat) (ya : Int) (τ : zS) (H : Heap) (locs : List Loc) (hP : GP D Y a τ H) (hS : va_S (inA a) s.heap H locs) (ls : Array Slot), (0 ≤ ya ∧ ya ≤ kW2 σ + 1) → (∀ c : Int, c ≠ σ 15 9 → τ c = t2 c) → (jBd τ 21 ∧ jBd τ 22) → (∀ x y h : Int, (0 ≤ x ∧ x ≤ kW1 σ) → (0 ≤ y ∧ y ≤ kW2 σ) → (0 ≤ h ∧ h ≤ σ 32 9) → mBit (σ 20 i) h = 1 → (h < ht ∨ (h = ht ∧ (x < xa ∨ (x = xa ∧ y < ya)))) → τ (σ 15 9) (mCell h x y) = kV σ (σ 32 12 - i).toNat x y h) → ((kW2 σ + 1 - ya).toNat) < n → lv_has ls 9 [(0, .ref (a 15)), (1, .int (iI (σ 35 i))), (2, .int (iI (σ 20 i))), (3, .int (iI (σ 32 10))), (4, .int (iI x3)), (5, .int (iI ht)), (6, .int (iI (mHeat ht (σ 35 i)))), (7, .int (iI xa)), (8, .int (iI ya))] → W p l e (zR 3) s m ([.ref (a 15), .int (iI (σ 35 i)), .int (iI (σ 20 i)), .int (iI (σ 32 10))] : List Value).toArray below meth c H locs 0 0 (MQ below (zQv D Y a (fun τ => kSF σ τ ∧ kBf τ ∧ kN σ τ i (σ 32 12 - i).toNat)) ([.ref (a 15), .int (iI (σ 35 i)), .int (iI (σ 20 i)), .int (iI (σ 32 10))] : List Value).toArray s 0 0 (inA a)) (F0 m 78 ls []) := by
                  intro n
                  induction n with
                  | zero =>
                    intros; omega
                  | succ n ih_78 =>
                    intro ya τ H locs hP hS ls jc gτ bτ iT hm hl
                    refine z_iload C hl 8 rfl dX5_stepAhead_78 ?_
                    refine z_aload_n C hl 0 rfl dX5_stepAhead_80 ?_
                    refine zg_X5_54 C hP dX5_stepAhead_81 ?_
                    rw [show τ 15 14 = σ 15 14 from by rw [gτ 15 (by omega), fL.2 14 (by omega)]]
                    refine z_icmp_gt C 119 dX5_stepAhead_84 (by decide) ⟨by omega, by omega⟩ ⟨by omega, by omega⟩ (fun c_84 => ?_) (fun c_84 => ?_)
                    · refine z_iinc C 7 [1, 2, 3, 4, 5, 6, 7, 0, 8] [(0, .ref (a 15)), (1, .int (iI (σ 35 i))), (2, .int (iI (σ 20 i))), (3, .int (iI (σ 32 10))), (4, .int (iI x3)), (5, .int (iI ht)), (6, .int (iI (mHeat ht (σ 35 i)))), (7, .int (iI (xa + 1))), (8, .int (iI ya))] hl rfl (by decide) rfl dX5_stepAhead_119 (fun ls hl => ?_)
                      refine z_goto C 66 dX5_stepAhead_122 (by decide) ?_
                      exact ih_66 (xa + 1) τ H locs hP hS ls (by omega) (by exact gτ) (by exact bτ) (by intro x y h h1 h2 h3 h4 h5; exact iT x y h h1 h2 h3 h4 (by omega)) (by omega) (lv_sub hl [0, 1, 2, 3, 4, 5, 6, 7] rfl)
                    · refine z_aload_n C hl 0 rfl dX5_stepAhead_87 ?_
                      refine zg_X5_30 C hP dX5_stepAhead_88 ?_
                      rw [show τ 15 9 = σ 15 9 from by rw [gτ 15 (by omega), fL.2 9 (by omega)]]
                      refine z_iload C hl 5 rfl dX5_stepAhead_91 ?_
                      refine z_iload C hl 7 rfl dX5_stepAhead_93 ?_
                      refine z_iload C hl 8 rfl dX5_stepAhead_95 ?_
                      refine z_sSi C hP (As := [.int (iI ht), .int (iI xa), .int (iI ya)]) lk_X5_107 (c_X5_cellOf hI τ ht xa ya ) rfl hl.1 rfl (Nat.le_of_ble_eq_true rfl) ⟨Nat.le_of_ble_eq_true rfl, Nat.le_of_ble_eq_true rfl⟩ ⟨Nat.zero_le _, Nat.zero_le _⟩ dX5_stepAhead_97 ?_
                      refine z_aload_n C hl 0 rfl dX5_stepAhead_100 ?_
                      refine z_iload C hl 6 rfl dX5_stepAhead_101 ?_
                      refine z_iload C hl 7 rfl dX5_stepAhead_103 ?_
                      refine z_iload C hl 8 rfl dX5_stepAhead_105 ?_
                      refine z_iload C hl 4 rfl dX5_stepAhead_107 ?_
                      refine z_vSi C hP (As := [.int (iI (mHeat ht (σ 35 i))), .int (iI xa), .int (iI ya), .int (iI x3)]) lk_X5_103 (c_X5_fewestOnward hI τ (mHeat ht (σ 35 i)) xa ya x3 (by rw [gτ 15 (by omega), fL.2 13 (by omega)]; exact hw1) (by rw [gτ 15 (by omega), fL.2 14 (by omega)]; exact hw2) (by rw [gτ 15 (by omega), fL.2 8 (by omega), fL.2 9 (by omega)]; exact hbf) (by rw [gτ 15 (by omega), fL.2 12 (by omega), hq]; exact hho) ⟨by omega, by omega⟩ ⟨by omega, by omega⟩ ⟨by omega, by omega⟩ ⟨by omega, by omega⟩ (by rw [gτ 15 (by omega)]; exact hLc) (by rw [gτ 15 (by omega), gτ 17 (by omega), gτ 18 (by omega), gτ 19 (by omega)]; exact hLa) bτ.1 bτ.2) ob_15 rfl rfl rfl hl.1 rfl (Nat.le_of_ble_eq_true rfl) ⟨Nat.le_of_ble_eq_true rfl, Nat.le_of_ble_eq_true rfl⟩ ⟨Nat.zero_le _, Nat.zero_le _⟩ dX5_stepAhead_109 ?_
                      rw [kFO_B (σ := σ) (i := i) (x := xa) (y := ya) (h := ht) (lim := x3) (m := (σ 32 12 - 1 - i).toNat) hpz (by rw [gτ 15 (by omega), fL.2 12 (by omega), hq]) (by rw [gτ 15 (by omega), fL.2 13 (by omega)]; rfl) (by rw [gτ 15 (by omega), fL.2 14 (by omega)]; rfl) rfl (by rw [gτ 16 (by omega), fL.1 16 (by omega)]) (by unfold kLA; rw [gτ 15 (by omega), gτ 16 (by omega), gτ 17 (by omega), gτ 18 (by omega), gτ 19 (by omega)]; exact hL.2.2.1) (fun e h1 h2 => by unfold kLE; rw [gτ 15 (by omega), gτ 16 (by omega), gτ 17 (by omega), gτ 18 (by omega), gτ 19 (by omega)]; exact hL.2.2.2 e h1 h2) (fun q x' y' a1 a2 a3 a4 => by rw [gτ 15 (by omega), fL.2 8 (by omega), gτ (σ 15 8) (by omega), fL.1 (σ 15 8) (by omega)]; exact hN x' y' (mHeat ht (σ 35 i)) ⟨a1, a2⟩ ⟨a3, a4⟩ ⟨(mHeat_b (by omega)).1, q⟩ (hhb.2 i (by omega) (by omega) ht (by omega) (by omega) (Or.inr (by omega)) q)) (Or.inl (by omega))]
                      have hb1k := kBk_b hpz i (σ 32 12 - 1 - i).toNat xa ya ht
                      have hmce : mCell ht xa ya = (ht * 10 + xa) * 10 + ya := rfl
                      refine z_iast C hP hS (ia_on (by omega)) ⟨by omega, by omega⟩ dX5_stepAhead_112 (fun H locs hP hS => ?_)
                      obtain ⟨t6, et6⟩ : ∃ z : zS, z = zU τ (σ 15 9) (mCell ht xa ya) (min x3 (kBk σ i (σ 32 12 - 1 - i).toNat xa ya ht)) := ⟨_, rfl⟩
                      rw [← et6] at hP
                      refine z_iinc C 8 [1, 2, 3, 4, 5, 6, 7, 8, 0] [(0, .ref (a 15)), (1, .int (iI (σ 35 i))), (2, .int (iI (σ 20 i))), (3, .int (iI (σ 32 10))), (4, .int (iI x3)), (5, .int (iI ht)), (6, .int (iI (mHeat ht (σ 35 i)))), (7, .int (iI xa)), (8, .int (iI (ya + 1)))] hl rfl (by decide) rfl dX5_stepAhead_113 (fun ls hl => ?_)
                      refine z_goto C 78 dX5_stepAhead_116 (by decide) ?_
                      exact ih_78 (ya + 1) t6 H locs hP hS ls (by omega) (by intro c hc; rw [et6, zU_cell hc]; exact gτ c hc) (by exact ⟨kBd_z bτ.1 et6 (by omega), kBd_z bτ.2 et6 (by omega)⟩) (by intro x y h h1 h2 h3 h4 h5; exact (if hq : x = xa ∧ y = ya ∧ h = ht then (by obtain ⟨rfl, rfl, rfl⟩ := hq; rw [et6, zU_same, kV_s σ (k := i) (by omega)]; omega) else (by rw [et6, zU_place (by unfold mCell; omega)]; exact iT x y h h1 h2 h3 h4 (by omega)))) (by omega) (lv_sub hl [0, 1, 2, 3, 4, 5, 6, 7, 8] rfl)
                exact L_78 _ 0 τ _ _ hP hS ls (by omega) (by exact gτ) (by exact bτ) (by intro x y h h1 h2 h3 h4 h5; exact iT x y h h1 h2 h3 h4 (by omega)) (Nat.lt_succ_self _) (lv_sub hl [0, 1, 2, 3, 4, 5, 6, 7, 8] rfl)
          exact L_66 _ 0 τ _ _ hP hS ls (by omega) (by exact gτ) (by exact bτ) (by intro x y h h1 h2 h3 h4 h5; exact iT x y h h1 h2 h3 h4 (by omega)) (Nat.lt_succ_self _) (lv_sub hl [0, 1, 2, 3, 4, 5, 6, 7] rfl)
        · refine z_goto C 125 dX5_stepAhead_52 (by decide) ?_
          refine z_iinc C 5 [1, 2, 3, 4, 5, 0] [(0, .ref (a 15)), (1, .int (iI (σ 35 i))), (2, .int (iI (σ 20 i))), (3, .int (iI (σ 32 10))), (4, .int (iI x3)), (5, .int (iI (ht + 1)))] hl rfl (by decide) rfl dX5_stepAhead_125 (fun ls hl => ?_)
          refine z_goto C 34 dX5_stepAhead_128 (by decide) ?_
          exact ih_34 (ht + 1) τ H locs hP hS ls (by omega) (by exact gτ) (by exact bτ) (by intro x y h h1 h2 h3 h4 h5; exact (if hh : h = ht then (by first | (exfalso; rw [hh] at h4; omega) | exact iT x y h h1 h2 h3 h4 (by omega)) else iT x y h h1 h2 h3 h4 (by omega))) (by omega) (lv_sub hl [0, 1, 2, 3, 4, 5] rfl)
  exact L_34 _ 0 t2 _ _ hP hS ls (by omega) (by intro c hc; rfl) (by exact ⟨fun j h1 h2 => (by rw [fL.1 21 (by omega)]; exact hb1 j h1 h2), fun j h1 h2 => (by rw [fL.1 22 (by omega)]; exact hb2 j h1 h2)⟩) (by intro x y h h1 h2 h3 h4 h5; omega) (Nat.lt_succ_self _) (lv_sub hl [0, 1, 2, 3, 4, 5] rfl)
