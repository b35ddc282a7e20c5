theorem mMnS_c {s : Int} {f g : Int → Int} : ∀ {n : Nat}, (∀ i : Int, 0 ≤ i → i < n → f i = g i) → mMnS s f n = mMnS s g n
  | 0, _ => rfl
  | n + 1, h => by
    show min (mMnS s f n) (f n) = min (mMnS s g n) (g n)
    rw [mMnS_c (n := n) (fun i h1 h2 => h i h1 (by omega)), h n (by omega) (by omega)]
theorem mMnS_le (s : Int) (f : Int → Int) : ∀ n : Nat, mMnS s f n ≤ s
  | 0 => Int.le_refl _
  | n + 1 => by
    have := mMnS_le s f n
    show min (mMnS s f n) (f n) ≤ s
    omega
theorem mMnS_nn {s : Int} {f : Int → Int} (hs : 0 ≤ s) : ∀ {n : Nat}, (∀ i : Int, 0 ≤ i → i < n → 0 ≤ f i) → 0 ≤ mMnS s f n
  | 0, _ => hs
  | n + 1, h => by
    have h1 := mMnS_nn hs (n := n) (fun i h1 h2 => h i h1 (by omega))
    have h2 := h n (by omega) (by omega)
    show 0 ≤ min (mMnS s f n) (f n)
    omega
theorem mMnS_lf (s : Int) (f : Int → Int) : ∀ (n : Nat) (i : Int), 0 ≤ i → i < n → mMnS s f n ≤ f i
  | 0, i, h1, h2 => by omega
  | n + 1, i, h1, h2 => by
    show min (mMnS s f n) (f n) ≤ f i
    by_cases h : i = n
    · subst h; omega
    · have := mMnS_lf s f n i h1 (by omega)
      omega
theorem mMnS_at (s : Int) (f : Int → Int) : ∀ n : Nat, mMnS s f n = s ∨ ∃ i : Int, 0 ≤ i ∧ i < n ∧ f i = mMnS s f n
  | 0 => Or.inl rfl
  | n + 1 => by
    have e : mMnS s f (n + 1) = min (mMnS s f n) (f n) := rfl
    by_cases h : f n ≤ mMnS s f n
    · exact Or.inr ⟨n, by omega, by omega, by omega⟩
    · rcases mMnS_at s f n with h1 | ⟨i, h1, h2, h3⟩
      · exact Or.inl (by omega)
      · exact Or.inr ⟨i, h1, by omega, by omega⟩
def jQf (σ : zS) (f r ch e i : Int) : Int := mSec (mHard (mSort ch)) (mTread (σ 101 f) (σ 102 f) (e / 5) (4 + i) + mTread (σ 101 r) (σ 102 r) (e % 5) (4 + i))
def jQk (σ : zS) (f r ch e : Int) : Int := mMnS 1000000 (jQf σ f r ch e) 7
theorem jQk_c {σ τ : zS} (h1 : τ 101 = σ 101) (h2 : τ 102 = σ 102) : jQk τ = jQk σ := by
  funext f r ch e
  unfold jQk
  congr 1
  funext i
  unfold jQf
  rw [h1, h2]
theorem jQk_b (σ : zS) (f r ch e : Int) : 0 ≤ jQk σ f r ch e ∧ jQk σ f r ch e ≤ 241 := by
  have hb : ∀ i : Int, 1 ≤ jQf σ f r ch e i ∧ jQf σ f r ch e i ≤ 241 := fun i => mSec_b (by have := mHard_b (mSort ch); omega)
  have h1 := mMnS_nn (s := 1000000) (f := jQf σ f r ch e) (n := 7) (by decide) (fun i _ _ => by have := hb i; omega)
  have h2 := mMnS_lf 1000000 (jQf σ f r ch e) 7 0 (by decide) (by decide)
  have := hb 0
  unfold jQk
  omega
def jIx (x y h : Int) : Int := (x * 10 + y) * 21 + h
def jSF (σ : zS) (f r x y h ch e : Int) : Int := if mWind (σ 103 f) x (e / 5) < 0 ∨ mWind (σ 103 r) y (e % 5) < 0 ∨ σ 100 7 < mHeat h (mSort ch) then 1000000 else σ 117 e + σ 116 (jIx (mWind (σ 103 f) x (e / 5)) (mWind (σ 103 r) y (e % 5)) (mHeat h (mSort ch)))
def dpF (w1 w2 hot : Int) (q : Int → Int) (g : Int) (V : Int → Int → Int → Int) (x y h e : Int) : Int := if mWind w1 x (e / 5) < 0 ∨ mWind w2 y (e % 5) < 0 ∨ hot < mHeat h g then 1000000 else q e + V (mWind w1 x (e / 5)) (mWind w2 y (e % 5)) (mHeat h g)
def dpB (w1 w2 hot : Int) (q : Int → Int) (g : Int) (V : Int → Int → Int → Int) (x y h : Int) : Int := mMnS 1000000 (dpF w1 w2 hot q g V x y h) 25
def dpV (w1 w2 hot pz : Int) (q : Int → Int → Int) (g : Int → Int) (n : Int) : Nat → Int → Int → Int → Int
  | 0 => fun _ _ _ => 0
  | m + 1 => fun x y h => min (dpB w1 w2 hot (q (n - 1 - m)) (g (n - 1 - m)) (dpV w1 w2 hot pz q g n m) x y h) (dpB w1 w2 hot (q (n - 1 - m)) (g (n - 1 - m)) (dpV w1 w2 hot pz q g n m) w1 w2 0 + pz)
theorem dpB_b {w1 w2 hot g : Int} {q : Int → Int} {V : Int → Int → Int → Int} (hq : ∀ e, 0 ≤ q e) (hV : ∀ x y h, 0 ≤ V x y h) (x y h : Int) : 0 ≤ dpB w1 w2 hot q g V x y h ∧ dpB w1 w2 hot q g V x y h ≤ 1000000 := by
  refine ⟨mMnS_nn (by decide) (fun e _ _ => ?_), mMnS_le _ _ _⟩
  unfold dpF
  split
  · omega
  · have h1 := hq e
    have h2 := hV (mWind w1 x (e / 5)) (mWind w2 y (e % 5)) (mHeat h g)
    omega
theorem dpV_b {w1 w2 hot pz n : Int} {q : Int → Int → Int} {g : Int → Int} (hq : ∀ k e, 0 ≤ q k e) (hz : 0 ≤ pz) : ∀ (m : Nat) (x y h : Int), 0 ≤ dpV w1 w2 hot pz q g n m x y h ∧ dpV w1 w2 hot pz q g n m x y h ≤ 1000000
  | 0, _, _, _ => ⟨Int.le_refl _, by show (0 : Int) ≤ 1000000; decide⟩
  | m + 1, x, y, h => by
    have hV := dpV_b (w1 := w1) (w2 := w2) (hot := hot) (n := n) (g := g) hq hz m
    have h1 := dpB_b (w1 := w1) (w2 := w2) (hot := hot) (g := g (n - 1 - m)) (hq (n - 1 - m)) (fun x y h => (hV x y h).1) x y h
    have h2 := dpB_b (w1 := w1) (w2 := w2) (hot := hot) (g := g (n - 1 - m)) (hq (n - 1 - m)) (fun x y h => (hV x y h).1) w1 w2 0
    show 0 ≤ min (dpB w1 w2 hot (q (n - 1 - m)) (g (n - 1 - m)) (dpV w1 w2 hot pz q g n m) x y h) (dpB w1 w2 hot (q (n - 1 - m)) (g (n - 1 - m)) (dpV w1 w2 hot pz q g n m) w1 w2 0 + pz) ∧ min (dpB w1 w2 hot (q (n - 1 - m)) (g (n - 1 - m)) (dpV w1 w2 hot pz q g n m) x y h) (dpB w1 w2 hot (q (n - 1 - m)) (g (n - 1 - m)) (dpV w1 w2 hot pz q g n m) w1 w2 0 + pz) ≤ 1000000
    omega
def jV (σ : zS) (f r : Int) (m : Nat) : Int → Int → Int → Int := dpV (σ 103 f) (σ 103 r) (σ 100 7) (σ 100 8) (fun k e => jQk σ f r (σ 105 k) e) (fun k => mSort (σ 105 k)) (σ 100 11) m
def jBk (σ : zS) (f r k : Int) (m : Nat) (x y h : Int) : Int := dpB (σ 103 f) (σ 103 r) (σ 100 7) (fun e => jQk σ f r (σ 105 k) e) (mSort (σ 105 k)) (jV σ f r m) x y h
theorem jV_b {σ : zS} (hpz : 0 ≤ σ 100 8 ∧ σ 100 8 ≤ 99) (f r : Int) (m : Nat) (x y h : Int) : 0 ≤ jV σ f r m x y h ∧ jV σ f r m x y h ≤ 1000000 := dpV_b (fun _ _ => (jQk_b _ _ _ _ _).1) hpz.1 m x y h
theorem jBk_b {σ : zS} (hpz : 0 ≤ σ 100 8 ∧ σ 100 8 ≤ 99) (f r k : Int) (m : Nat) (x y h : Int) : 0 ≤ jBk σ f r k m x y h ∧ jBk σ f r k m x y h ≤ 1000000 := dpB_b (fun _ => (jQk_b _ _ _ _ _).1) (fun x y h => (jV_b hpz f r m x y h).1) x y h
theorem jV_s (σ : zS) (f r : Int) {k : Int} (h : 1 ≤ k ∧ k ≤ σ 100 11 - 1) (x y hh : Int) : jV σ f r (σ 100 11 - k).toNat x y hh = min (jBk σ f r k (σ 100 11 - 1 - k).toNat x y hh) (jBk σ f r k (σ 100 11 - 1 - k).toNat (σ 103 f) (σ 103 r) 0 + σ 100 8) := by
  have e : (σ 100 11 - k).toNat = (σ 100 11 - 1 - k).toNat + 1 := by omega
  have e2 : σ 100 11 - 1 - (((σ 100 11 - 1 - k).toNat : Nat) : Int) = k := by omega
  rw [e]
  unfold jV
  show min (dpB _ _ _ ((fun k e => jQk σ f r (σ 105 k) e) (σ 100 11 - 1 - (((σ 100 11 - 1 - k).toNat : Nat) : Int))) ((fun k => mSort (σ 105 k)) (σ 100 11 - 1 - (((σ 100 11 - 1 - k).toNat : Nat) : Int))) _ x y hh) (dpB _ _ _ ((fun k e => jQk σ f r (σ 105 k) e) (σ 100 11 - 1 - (((σ 100 11 - 1 - k).toNat : Nat) : Int))) ((fun k => mSort (σ 105 k)) (σ 100 11 - 1 - (((σ 100 11 - 1 - k).toNat : Nat) : Int))) _ (σ 103 f) (σ 103 r) 0 + σ 100 8) = _
  rw [e2]
  rfl
def jG (σ τ : zS) : Prop := ∀ c : Int, c < 115 ∨ 117 < c → τ c = σ c
def jDom (σ : zS) (f r x y h : Int) : Prop := (0 ≤ x ∧ x ≤ σ 103 f) ∧ (0 ≤ y ∧ y ≤ σ 103 r) ∧ 0 ≤ h ∧ h ≤ σ 100 7
def jN (σ τ : zS) (f r : Int) (m : Nat) : Prop := ∀ x y h : Int, jDom σ f r x y h → τ 116 (jIx x y h) = jV σ f r m x y h
def jBd (τ : zS) (c : Int) : Prop := ∀ i : Int, 0 ≤ i → i < 2100 → 0 ≤ τ c i ∧ τ c i ≤ 1000000
def jQ (σ τ : zS) (f r ch : Int) : Prop := ∀ e : Int, 0 ≤ e → e < 25 → τ 117 e = jQk σ f r ch e
theorem jBF {σ τ : zS} {f r k : Int} {m : Nat} (hrd : ∀ r : Int, 0 ≤ r → r ≤ 3 → (0 ≤ σ 101 r ∧ σ 101 r ≤ 20) ∧ (0 ≤ σ 102 r ∧ σ 102 r ≤ 10) ∧ (0 ≤ σ 103 r ∧ σ 103 r ≤ 9)) (hho : 5 ≤ σ 100 7 ∧ σ 100 7 ≤ 20) (hf : 0 ≤ f ∧ f ≤ 3) (hrr : 0 ≤ r ∧ r ≤ 3) (hG : jG σ τ) (hQ : jQ σ τ f r (σ 105 k)) (hN : jN σ τ f r m) {x y h : Int} (hD : jDom σ f r x y h) : mMnS 1000000 (jSF τ f r x y h (σ 105 k)) 25 = jBk σ f r k m x y h := by
  unfold jBk dpB
  apply mMnS_c
  intro e h1 h2
  have w1 := (hrd f hf.1 hf.2).2.2
  have w2 := (hrd r hrr.1 hrr.2).2.2
  unfold jDom at hD
  unfold jSF dpF
  rw [hG 103 (by omega), hG 100 (by omega)]
  by_cases hc : mWind (σ 103 f) x (e / 5) < 0 ∨ mWind (σ 103 r) y (e % 5) < 0 ∨ σ 100 7 < mHeat h (mSort (σ 105 k))
  · rw [if_pos hc, if_pos hc]
  · rw [if_neg hc, if_neg hc, hQ e h1 h2, hN]
    have g1 : mWind (σ 103 f) x (e / 5) ≤ σ 103 f := by unfold mWind; omega
    have g2 : mWind (σ 103 r) y (e % 5) ≤ σ 103 r := by unfold mWind; omega
    have g3 := mHeat_b (h := h) (s := mSort (σ 105 k)) ⟨hD.2.2.1, by omega⟩
    exact ⟨⟨by omega, g1⟩, ⟨by omega, g2⟩, by omega, by omega⟩
set_option maxRecDepth 20000 in
set_option maxHeartbeats 4000000 in
theorem c_X8_findQuickest {l : Launch} {D : va_G} {Y : Nat → ClassId} {a : Int → Nat} (hI : zI a) (σ : zS) (f rr ch : Int) (hf : 0 ≤ f ∧ f ≤ 3) (hrr : 0 ≤ rr ∧ rr ≤ 3) (hch : 0 ≤ ch ∧ ch ≤ 200) (hrd : ∀ r : Int, 0 ≤ r → r ≤ 3 → (0 ≤ σ 101 r ∧ σ 101 r ≤ 20) ∧ (0 ≤ σ 102 r ∧ σ 102 r ≤ 10) ∧ (0 ≤ σ 103 r ∧ σ 103 r ≤ 9)) : zMet l yX8_findQuickest cX8_findQuickest 7 none 3 (zPc D Y a σ [.ref (a 100), .int (iI f), .int (iI rr), .int (iI ch)]) (zQv D Y a (fun τ => (∀ c : Int, c ≠ 117 → τ c = σ c) ∧ jQ σ τ f rr ch)) (inA a) := by
  refine z_start rfl (Nat.le_of_ble_eq_true rfl) hI ?_
  intro p e s m below meth c ls C hr hlocks hl hP
  have hS : va_S (inA a) s.heap s.heap [] := va_S.rf
  have hl : lv_has ls 7 [(0, .ref (a 100)), (1, .int (iI f)), (2, .int (iI rr)), (3, .int (iI ch))] := hl
  skip
  refine z_iconst C dX8_findQuickest_0 ?_
  refine z_istore C [1, 2, 3, 4, 0] [(0, .ref (a 100)), (1, .int (iI f)), (2, .int (iI rr)), (3, .int (iI ch)), (4, .int (iI 0))] hl (by decide) rfl dX8_findQuickest_1 (fun ls hl => ?_)
  have L_3 : ∀ (n : Nat) (ee : Int) (τ : zS) (H : Heap) (locs : List Loc) (hP : GP D Y a τ H) (hS : va_S (inA a) s.heap H locs) (ls : Array Slot), (0 ≤ ee ∧ ee ≤ 25) → (∀ c : Int, c ≠ 117 → τ c = σ c) → (∀ j : Int, 0 ≤ j → j < ee → τ 117 j = jQk σ f rr ch j) → ((25 - ee).toNat) < n → lv_has ls 7 [(0, .ref (a 100)), (1, .int (iI f)), (2, .int (iI rr)), (3, .int (iI ch)), (4, .int (iI ee))] → W p l e (zR 3) s m ([.ref (a 100), .int (iI f), .int (iI rr), .int (iI ch)] : List Value).toArray below meth c H locs 0 0 (MQ below (zQv D Y a (fun τ => (∀ c : Int, c ≠ 117 → τ c = σ c) ∧ jQ σ τ f rr ch)) ([.ref (a 100), .int (iI f), .int (iI rr), .int (iI ch)] : List Value).toArray s 0 0 (inA a)) (F0 m 3 ls []) := by
    intro n
    induction n with
    | zero =>
      intros; omega
    | succ n ih_3 =>
      intro ee τ H locs hP hS ls ie fτ iD hm hl
      refine z_iload C hl 4 rfl dX8_findQuickest_3 ?_
      refine z_bipush C (by decide +kernel) dX8_findQuickest_5 ?_
      refine z_icmp_ge C 85 dX8_findQuickest_7 (by decide) ⟨by omega, by omega⟩ ⟨by omega, by omega⟩ (fun c_7 => ?_) (fun c_7 => ?_)
      · exact z_retQv C hP hS hr hlocks (by exact ⟨fτ, fun e h1 h2 => iD e h1 (by omega)⟩) dX8_findQuickest_85
      · refine z_aload_n C hl 0 rfl dX8_findQuickest_10 ?_
        refine zg_X8_58 C hP dX8_findQuickest_11 ?_
        refine z_iload C hl 4 rfl dX8_findQuickest_14 ?_
        refine z_ldc C (z := 1000000) wd_556 (by decide +kernel) dX8_findQuickest_16 ?_
        refine z_iast C hP hS ia_117 ⟨by omega, by omega⟩ dX8_findQuickest_18 (fun H locs hP hS => ?_)
        obtain ⟨t1, et1⟩ : ∃ z : zS, z = zU τ 117 ee 1000000 := ⟨_, rfl⟩
        rw [← et1] at hP
        refine z_iconst C dX8_findQuickest_19 ?_
        refine z_istore C [1, 2, 3, 4, 5, 0] [(0, .ref (a 100)), (1, .int (iI f)), (2, .int (iI rr)), (3, .int (iI ch)), (4, .int (iI ee)), (5, .int (iI 4))] hl (by decide) rfl dX8_findQuickest_20 (fun ls hl => ?_)
        have L_22 : ∀ (n : Nat) (b : Int) (τ : zS) (H : Heap) (locs : List Loc) (hP : GP D Y a τ H) (hS : va_S (inA a) s.heap H locs) (ls : Array Slot), (4 ≤ b ∧ b ≤ 11) → (∀ c : Int, c ≠ 117 → τ c = σ c) → (∀ j : Int, 0 ≤ j → j < ee → τ 117 j = jQk σ f rr ch j) → (τ 117 ee = mMnS 1000000 (jQf σ f rr ch ee) (b - 4).toNat) → (0 ≤ τ 117 ee ∧ τ 117 ee ≤ 1000000) → ((11 - b).toNat) < n → lv_has ls 7 [(0, .ref (a 100)), (1, .int (iI f)), (2, .int (iI rr)), (3, .int (iI ch)), (4, .int (iI ee)), (5, .int (iI b))] → W p l e (zR 3) s m ([.ref (a 100), .int (iI f), .int (iI rr), .int (iI ch)] : List Value).toArray below meth c H locs 0 0 (MQ below (zQv D Y a (fun τ => (∀ c : Int, c ≠ 117 → τ c = σ c) ∧ jQ σ τ f rr ch)) ([.ref (a 100), .int (iI f), .int (iI rr), .int (iI ch)] : List Value).toArray s 0 0 (inA a)) (F0 m 22 ls []) := by
          intro n
          induction n with
          | zero =>
            intros; omega
          | succ n ih_22 =>
            intro b τ H locs hP hS ls ib fτ iD iQ iB hm hl
            refine z_iload C hl 5 rfl dX8_findQuickest_22 ?_
            refine z_bipush C (by decide +kernel) dX8_findQuickest_24 ?_
            refine z_icmp_gt C 79 dX8_findQuickest_26 (by decide) ⟨by omega, by omega⟩ ⟨by omega, by omega⟩ (fun c_26 => ?_) (fun c_26 => ?_)
            · refine z_iinc C 4 [1, 2, 3, 4, 0, 5] [(0, .ref (a 100)), (1, .int (iI f)), (2, .int (iI rr)), (3, .int (iI ch)), (4, .int (iI (ee + 1))), (5, .int (iI b))] hl rfl (by decide) rfl dX8_findQuickest_79 (fun ls hl => ?_)
              refine z_goto C 3 dX8_findQuickest_82 (by decide) ?_
              exact ih_3 (ee + 1) τ H locs hP hS ls (by omega) (by exact fτ) (by intro j h1 h2; exact if hj : j = ee then (by rw [hj, iQ, show (b - 4).toNat = 7 from (by omega)]; rfl) else iD j h1 (by omega)) (by omega) (lv_sub hl [0, 1, 2, 3, 4] rfl)
            · refine z_aload_n C hl 0 rfl dX8_findQuickest_29 ?_
              refine z_iload_n C hl 1 rfl dX8_findQuickest_30 ?_
              refine z_iload_n C hl 2 rfl dX8_findQuickest_31 ?_
              refine z_iload_n C hl 3 rfl dX8_findQuickest_32 ?_
              refine z_iload C hl 4 rfl dX8_findQuickest_33 ?_
              refine z_iload C hl 5 rfl dX8_findQuickest_35 ?_
              refine z_vSi C hP (As := [.int (iI f), .int (iI rr), .int (iI ch), .int (iI ee), .int (iI b)]) lk_X8_229 (c_X8_secondsBy hI τ f rr ch ee b hf hrr hch ⟨by omega, by omega⟩ ⟨by omega, by omega⟩ (by rw [show τ 101 = σ 101 from (by rw [fτ 101 (by omega)]), show τ 102 = σ 102 from (by rw [fτ 102 (by omega)]), show τ 103 = σ 103 from (by rw [fτ 103 (by omega)])]; exact hrd)) ob_100 rfl rfl rfl hl.1 rfl (Nat.le_of_ble_eq_true rfl) ⟨Nat.le_of_ble_eq_true rfl, Nat.le_of_ble_eq_true rfl⟩ ⟨Nat.zero_le _, Nat.zero_le _⟩ dX8_findQuickest_37 ?_
              try rw [show τ 101 = σ 101 from (by rw [fτ 101 (by omega)])]
              try rw [show τ 102 = σ 102 from (by rw [fτ 102 (by omega)])]
              have hhb := mHard_b (mSort ch)
              have sb1 : 1 ≤ (mSec (mHard (mSort ch)) (mTread (σ 101 f) (σ 102 f) (ee / 5) b + mTread (σ 101 rr) (σ 102 rr) (ee % 5) b)) ∧ (mSec (mHard (mSort ch)) (mTread (σ 101 f) (σ 102 f) (ee / 5) b + mTread (σ 101 rr) (σ 102 rr) (ee % 5) b)) ≤ 241 := mSec_b (by omega)
              refine z_topi (fun x2 hx2 => ?_)
              refine z_istore C [1, 2, 3, 4, 5, 6, 0] [(0, .ref (a 100)), (1, .int (iI f)), (2, .int (iI rr)), (3, .int (iI ch)), (4, .int (iI ee)), (5, .int (iI b)), (6, .int (iI x2))] hl (by decide) rfl dX8_findQuickest_40 (fun ls hl => ?_)
              have hqf : jQf σ f rr ch ee (b - 4) = x2 := by unfold jQf; rw [show 4 + (b - 4) = b from (by omega)]; exact hx2
              refine z_aload_n C hl 0 rfl dX8_findQuickest_42 ?_
              refine zg_X8_58 C hP dX8_findQuickest_43 ?_
              refine z_iload C hl 4 rfl dX8_findQuickest_46 ?_
              refine z_iload C hl 6 rfl dX8_findQuickest_48 ?_
              refine z_aload_n C hl 0 rfl dX8_findQuickest_50 ?_
              refine zg_X8_58 C hP dX8_findQuickest_51 ?_
              refine z_iload C hl 4 rfl dX8_findQuickest_54 ?_
              refine z_iald C hP ia_117 ⟨by omega, by omega⟩ dX8_findQuickest_56 ?_
              refine z_icmp_ge C 65 dX8_findQuickest_57 (by decide) ⟨by omega, by omega⟩ ⟨by omega, by omega⟩ (fun c_57 => ?_) (fun c_57 => ?_)
              · refine z_aload_n C hl 0 rfl dX8_findQuickest_65 ?_
                refine zg_X8_58 C hP dX8_findQuickest_66 ?_
                refine z_iload C hl 4 rfl dX8_findQuickest_69 ?_
                refine z_iald C hP ia_117 ⟨by omega, by omega⟩ dX8_findQuickest_71 ?_
                refine z_iast C hP hS ia_117 ⟨by omega, by omega⟩ dX8_findQuickest_72 (fun H locs hP hS => ?_)
                obtain ⟨t3, et3⟩ : ∃ z : zS, z = zU τ 117 ee (τ 117 ee) := ⟨_, rfl⟩
                rw [← et3] at hP
                refine z_iinc C 5 [1, 2, 3, 4, 5, 0, 6] [(0, .ref (a 100)), (1, .int (iI f)), (2, .int (iI rr)), (3, .int (iI ch)), (4, .int (iI ee)), (5, .int (iI (b + 1))), (6, .int (iI x2))] hl rfl (by decide) rfl dX8_findQuickest_73 (fun ls hl => ?_)
                refine z_goto C 22 dX8_findQuickest_76 (by decide) ?_
                exact ih_22 (b + 1) t3 H locs hP hS ls (by omega) (by intro c hc; exact (by rw [et3, zU_cell (by omega), fτ c (by omega)])) (by intro j h1 h2; rw [et3, zU_place (by omega)]; exact iD j h1 h2) (by rw [et3, zU_same, show b + 1 - 4 = (b - 4) + 1 from (by omega), mMnS_s _ _ (by omega), ← iQ, hqf]; omega) (by rw [et3, zU_same]; omega) (by omega) (lv_sub hl [0, 1, 2, 3, 4, 5] rfl)
              · refine z_iload C hl 6 rfl dX8_findQuickest_60 ?_
                refine z_goto C 72 dX8_findQuickest_62 (by decide) ?_
                refine z_iast C hP hS ia_117 ⟨by omega, by omega⟩ dX8_findQuickest_72 (fun H locs hP hS => ?_)
                obtain ⟨t4, et4⟩ : ∃ z : zS, z = zU τ 117 ee x2 := ⟨_, rfl⟩
                rw [← et4] at hP
                refine z_iinc C 5 [1, 2, 3, 4, 5, 0, 6] [(0, .ref (a 100)), (1, .int (iI f)), (2, .int (iI rr)), (3, .int (iI ch)), (4, .int (iI ee)), (5, .int (iI (b + 1))), (6, .int (iI x2))] hl rfl (by decide) rfl dX8_findQuickest_73 (fun ls hl => ?_)
                refine z_goto C 22 dX8_findQuickest_76 (by decide) ?_
                exact ih_22 (b + 1) t4 H locs hP hS ls (by omega) (by intro c hc; exact (by rw [et4, zU_cell (by omega), fτ c (by omega)])) (by intro j h1 h2; rw [et4, zU_place (by omega)]; exact iD j h1 h2) (by rw [et4, zU_same, show b + 1 - 4 = (b - 4) + 1 from (by omega), mMnS_s _ _ (by omega), ← iQ, hqf]; omega) (by rw [et4, zU_same]; omega) (by omega) (lv_sub hl [0, 1, 2, 3, 4, 5] rfl)
        exact L_22 _ 4 t1 _ _ hP hS ls (by omega) (by intro c hc; exact (by rw [et1, zU_cell (by omega), fτ c (by omega)])) (by intro j h1 h2; rw [et1, zU_place (by omega)]; exact iD j h1 h2) (by rw [et1, zU_same]; rfl) (by rw [et1, zU_same]; decide) (Nat.lt_succ_self _) (lv_sub hl [0, 1, 2, 3, 4, 5] rfl)
  exact L_3 _ 0 σ _ _ hP hS ls (by omega) (by intro c hc; rfl) (by intro j h1 h2; omega) (Nat.lt_succ_self _) (lv_sub hl [0, 1, 2, 3, 4] rfl)

set_option maxRecDepth 20000 in
set_option maxHeartbeats 4000000 in
theorem c_X8_secondsFrom {l : Launch} {D : va_G} {Y : Nat → ClassId} {a : Int → Nat} (hI : zI a) (σ : zS) (f rr x y ht ch ee : Int) (hf : 0 ≤ f ∧ f ≤ 3) (hrr : 0 ≤ rr ∧ rr ≤ 3) (hrd : ∀ r : Int, 0 ≤ r → r ≤ 3 → (0 ≤ σ 101 r ∧ σ 101 r ≤ 20) ∧ (0 ≤ σ 102 r ∧ σ 102 r ≤ 10) ∧ (0 ≤ σ 103 r ∧ σ 103 r ≤ 9)) (hho : 5 ≤ σ 100 7 ∧ σ 100 7 ≤ 20) (hx : 0 ≤ x ∧ x ≤ 9) (hy : 0 ≤ y ∧ y ≤ 9) (hht : 0 ≤ ht ∧ ht ≤ 20) (hch : 0 ≤ ch ∧ ch ≤ 200) (hee : 0 ≤ ee ∧ ee < 25) (hq : 0 ≤ σ 117 ee ∧ σ 117 ee ≤ 1000000) (hnb : jBd σ 116) : zMet l yX8_secondsFrom cX8_secondsFrom 11 (some .int) 1 (zPc D Y a σ [.ref (a 100), .int (iI f), .int (iI rr), .int (iI x), .int (iI y), .int (iI ht), .int (iI ch), .int (iI ee)]) (zSi (jSF σ f rr x y ht ch ee)) zNo := by
  refine z_start rfl (Nat.le_of_ble_eq_true rfl) hI ?_
  intro p e s m below meth c ls C hr hlocks hl hP
  have hl : lv_has ls 11 [(0, .ref (a 100)), (1, .int (iI f)), (2, .int (iI rr)), (3, .int (iI x)), (4, .int (iI y)), (5, .int (iI ht)), (6, .int (iI ch)), (7, .int (iI ee))] := hl
  refine z_aload_n C hl 0 rfl dX8_secondsFrom_0 ?_
  refine z_iload_n C hl 1 rfl dX8_secondsFrom_1 ?_
  refine z_iload_n C hl 3 rfl dX8_secondsFrom_2 ?_
  refine z_iload C hl 7 rfl dX8_secondsFrom_3 ?_
  refine z_iconst C dX8_secondsFrom_5 ?_
  refine z_idiv C ⟨by omega, by omega, by omega, by omega⟩ dX8_secondsFrom_6 ?_
  refine z_vSi C hP (As := [.int (iI f), .int (iI x), .int (iI (ee / 5))]) lk_X8_183 (c_X8_winded hI σ f x (ee / 5) hf (hrd f hf.1 hf.2).2.2 ⟨by omega, by omega⟩ ⟨by omega, by omega⟩) ob_100 rfl rfl rfl hl.1 rfl (Nat.le_of_ble_eq_true rfl) ⟨Nat.le_of_ble_eq_true rfl, Nat.le_of_ble_eq_true rfl⟩ ⟨Nat.zero_le _, Nat.zero_le _⟩ dX8_secondsFrom_7 ?_
  have w1 : -2 ≤ (mWind (σ 103 f) x (ee / 5)) ∧ (mWind (σ 103 f) x (ee / 5)) ≤ 9 := mWind_b (hrd f hf.1 hf.2).2.2 hx ⟨by omega, by omega⟩
  refine z_topi (fun x1 hx1 => ?_)
  refine z_istore C [1, 2, 3, 4, 5, 6, 7, 8, 0] [(0, .ref (a 100)), (1, .int (iI f)), (2, .int (iI rr)), (3, .int (iI x)), (4, .int (iI y)), (5, .int (iI ht)), (6, .int (iI ch)), (7, .int (iI ee)), (8, .int (iI x1))] hl (by decide) rfl dX8_secondsFrom_10 (fun ls hl => ?_)
  refine z_aload_n C hl 0 rfl dX8_secondsFrom_12 ?_
  refine z_iload_n C hl 2 rfl dX8_secondsFrom_13 ?_
  refine z_iload C hl 4 rfl dX8_secondsFrom_14 ?_
  refine z_iload C hl 7 rfl dX8_secondsFrom_16 ?_
  refine z_iconst C dX8_secondsFrom_18 ?_
  refine z_irem C ⟨by omega, by omega, by omega, by omega⟩ dX8_secondsFrom_19 ?_
  refine z_vSi C hP (As := [.int (iI rr), .int (iI y), .int (iI (ee % 5))]) lk_X8_183 (c_X8_winded hI σ rr y (ee % 5) hrr (hrd rr hrr.1 hrr.2).2.2 ⟨by omega, by omega⟩ ⟨by omega, by omega⟩) ob_100 rfl rfl rfl hl.1 rfl (Nat.le_of_ble_eq_true rfl) ⟨Nat.le_of_ble_eq_true rfl, Nat.le_of_ble_eq_true rfl⟩ ⟨Nat.zero_le _, Nat.zero_le _⟩ dX8_secondsFrom_20 ?_
  have w2 : -2 ≤ (mWind (σ 103 rr) y (ee % 5)) ∧ (mWind (σ 103 rr) y (ee % 5)) ≤ 9 := mWind_b (hrd rr hrr.1 hrr.2).2.2 hy ⟨by omega, by omega⟩
  refine z_topi (fun x2 hx2 => ?_)
  refine z_istore C [1, 2, 3, 4, 5, 6, 7, 8, 9, 0] [(0, .ref (a 100)), (1, .int (iI f)), (2, .int (iI rr)), (3, .int (iI x)), (4, .int (iI y)), (5, .int (iI ht)), (6, .int (iI ch)), (7, .int (iI ee)), (8, .int (iI x1)), (9, .int (iI x2))] hl (by decide) rfl dX8_secondsFrom_23 (fun ls hl => ?_)
  refine z_iload C hl 5 rfl dX8_secondsFrom_25 ?_
  refine z_iload C hl 6 rfl dX8_secondsFrom_27 ?_
  refine z_sSi C hP (As := [.int (iI ht), .int (iI ch)]) lk_X8_186 (c_X8_heated hI σ ht ch ⟨by omega, by omega⟩ hch) rfl hl.1 rfl (Nat.le_of_ble_eq_true rfl) ⟨Nat.le_of_ble_eq_true rfl, Nat.le_of_ble_eq_true rfl⟩ ⟨Nat.zero_le _, Nat.zero_le _⟩ dX8_secondsFrom_29 ?_
  have w3 : 0 ≤ (mHeat ht (mSort ch)) ∧ (mHeat ht (mSort ch)) ≤ 25 := mHeat_b hht
  refine z_topi (fun x3 hx3 => ?_)
  refine z_istore C [1, 2, 3, 4, 5, 6, 7, 8, 9, 10, 0] [(0, .ref (a 100)), (1, .int (iI f)), (2, .int (iI rr)), (3, .int (iI x)), (4, .int (iI y)), (5, .int (iI ht)), (6, .int (iI ch)), (7, .int (iI ee)), (8, .int (iI x1)), (9, .int (iI x2)), (10, .int (iI x3))] hl (by decide) rfl dX8_secondsFrom_32 (fun ls hl => ?_)
  refine z_iload C hl 8 rfl dX8_secondsFrom_34 ?_
  refine z_if_lt C 53 dX8_secondsFrom_36 (by decide) ⟨by omega, by omega⟩ (fun c_36 => ?_) (fun c_36 => ?_)
  · refine z_ldc C (z := 1000000) wd_556 (by decide +kernel) dX8_secondsFrom_53 ?_
    refine z_goto C 80 dX8_secondsFrom_55 (by decide) ?_
    exact z_retSi C hr hlocks rfl (by unfold jSF; rw [hx1, hx2, hx3]; first | (rw [if_pos (by omega)]; done) | (rw [if_neg (by omega)]; rfl)) dX8_secondsFrom_80
  · refine z_iload C hl 9 rfl dX8_secondsFrom_39 ?_
    refine z_if_lt C 53 dX8_secondsFrom_41 (by decide) ⟨by omega, by omega⟩ (fun c_41 => ?_) (fun c_41 => ?_)
    · refine z_ldc C (z := 1000000) wd_556 (by decide +kernel) dX8_secondsFrom_53 ?_
      refine z_goto C 80 dX8_secondsFrom_55 (by decide) ?_
      exact z_retSi C hr hlocks rfl (by unfold jSF; rw [hx1, hx2, hx3]; first | (rw [if_pos (by omega)]; done) | (rw [if_neg (by omega)]; rfl)) dX8_secondsFrom_80
    · refine z_iload C hl 10 rfl dX8_secondsFrom_44 ?_
      refine z_aload_n C hl 0 rfl dX8_secondsFrom_46 ?_
      refine zg_X8_72 C hP dX8_secondsFrom_47 ?_
      refine z_icmp_le C 58 dX8_secondsFrom_50 (by decide) ⟨by omega, by omega⟩ ⟨by omega, by omega⟩ (fun c_50 => ?_) (fun c_50 => ?_)
      · refine z_aload_n C hl 0 rfl dX8_secondsFrom_58 ?_
        refine zg_X8_58 C hP dX8_secondsFrom_59 ?_
        refine z_iload C hl 7 rfl dX8_secondsFrom_62 ?_
        refine z_iald C hP ia_117 ⟨by omega, by omega⟩ dX8_secondsFrom_64 ?_
        refine z_aload_n C hl 0 rfl dX8_secondsFrom_65 ?_
        refine zg_X8_55 C hP dX8_secondsFrom_66 ?_
        refine z_iload C hl 8 rfl dX8_secondsFrom_69 ?_
        refine z_iload C hl 9 rfl dX8_secondsFrom_71 ?_
        refine z_iload C hl 10 rfl dX8_secondsFrom_73 ?_
        refine z_sSi C hP (As := [.int (iI x1), .int (iI x2), .int (iI x3)]) lk_X8_233 (c_X8_stateOf hI σ x1 x2 x3 ) rfl hl.1 rfl (Nat.le_of_ble_eq_true rfl) ⟨Nat.le_of_ble_eq_true rfl, Nat.le_of_ble_eq_true rfl⟩ ⟨Nat.zero_le _, Nat.zero_le _⟩ dX8_secondsFrom_75 ?_
        have hib := hnb ((x1 * 10 + x2) * 21 + x3) (by omega) (by omega)
        refine z_iald C hP ia_116 ⟨by omega, by omega⟩ dX8_secondsFrom_78 ?_
        refine z_iadd C dX8_secondsFrom_79 ?_
        exact z_retSi C hr hlocks rfl (by unfold jSF; rw [hx1, hx2, hx3]; first | (rw [if_pos (by omega)]; done) | (rw [if_neg (by omega)]; rfl)) dX8_secondsFrom_80
      · refine z_ldc C (z := 1000000) wd_556 (by decide +kernel) dX8_secondsFrom_53 ?_
        refine z_goto C 80 dX8_secondsFrom_55 (by decide) ?_
        exact z_retSi C hr hlocks rfl (by unfold jSF; rw [hx1, hx2, hx3]; first | (rw [if_pos (by omega)]; done) | (rw [if_neg (by omega)]; rfl)) dX8_secondsFrom_80

theorem jSF_b {σ : zS} (hrd : ∀ r : Int, 0 ≤ r → r ≤ 3 → (0 ≤ σ 101 r ∧ σ 101 r ≤ 20) ∧ (0 ≤ σ 102 r ∧ σ 102 r ≤ 10) ∧ (0 ≤ σ 103 r ∧ σ 103 r ≤ 9)) (hho : 5 ≤ σ 100 7 ∧ σ 100 7 ≤ 20) {f r x y h ch e : Int} (hf : 0 ≤ f ∧ f ≤ 3) (hrr : 0 ≤ r ∧ r ≤ 3) (hx : 0 ≤ x ∧ x ≤ 9) (hy : 0 ≤ y ∧ y ≤ 9) (hh : 0 ≤ h ∧ h ≤ 20) (hq : 0 ≤ σ 117 e ∧ σ 117 e ≤ 1000000) (hnb : jBd σ 116) (he : 0 ≤ e ∧ e < 25) : 0 ≤ jSF σ f r x y h ch e ∧ jSF σ f r x y h ch e ≤ 2000000 := by
  have w1 := mWind_b (hrd f hf.1 hf.2).2.2 hx (e := e / 5) ⟨by omega, by omega⟩
  have w2 := mWind_b (hrd r hrr.1 hrr.2).2.2 hy (e := e % 5) ⟨by omega, by omega⟩
  have w3 := mHeat_b (h := h) (s := mSort ch) hh
  unfold jSF
  split
  · omega
  · have := hnb (jIx (mWind (σ 103 f) x (e / 5)) (mWind (σ 103 r) y (e % 5)) (mHeat h (mSort ch))) (by unfold jIx; omega) (by unfold jIx; omega)
    omega
set_option maxRecDepth 20000 in
set_option maxHeartbeats 4000000 in
theorem c_X8_bestFrom {l : Launch} {D : va_G} {Y : Nat → ClassId} {a : Int → Nat} (hI : zI a) (σ : zS) (f rr x y ht ch : Int) (hf : 0 ≤ f ∧ f ≤ 3) (hrr : 0 ≤ rr ∧ rr ≤ 3) (hrd : ∀ r : Int, 0 ≤ r → r ≤ 3 → (0 ≤ σ 101 r ∧ σ 101 r ≤ 20) ∧ (0 ≤ σ 102 r ∧ σ 102 r ≤ 10) ∧ (0 ≤ σ 103 r ∧ σ 103 r ≤ 9)) (hho : 5 ≤ σ 100 7 ∧ σ 100 7 ≤ 20) (hx : 0 ≤ x ∧ x ≤ 9) (hy : 0 ≤ y ∧ y ≤ 9) (hht : 0 ≤ ht ∧ ht ≤ 20) (hch : 0 ≤ ch ∧ ch ≤ 200) (hq : ∀ e : Int, 0 ≤ e → e < 25 → 0 ≤ σ 117 e ∧ σ 117 e ≤ 1000000) (hnb : jBd σ 116) : zMet l yX8_bestFrom cX8_bestFrom 10 (some .int) 2 (zPc D Y a σ [.ref (a 100), .int (iI f), .int (iI rr), .int (iI x), .int (iI y), .int (iI ht), .int (iI ch)]) (zSi (mMnS 1000000 (jSF σ f rr x y ht ch) 25)) zNo := by
  refine z_start rfl (Nat.le_of_ble_eq_true rfl) hI ?_
  intro p e s m below meth c ls C hr hlocks hl hP
  have hl : lv_has ls 10 [(0, .ref (a 100)), (1, .int (iI f)), (2, .int (iI rr)), (3, .int (iI x)), (4, .int (iI y)), (5, .int (iI ht)), (6, .int (iI ch))] := hl
  refine z_ldc C (z := 1000000) wd_556 (by decide +kernel) dX8_bestFrom_0 ?_
  refine z_istore C [1, 2, 3, 4, 5, 6, 7, 0] [(0, .ref (a 100)), (1, .int (iI f)), (2, .int (iI rr)), (3, .int (iI x)), (4, .int (iI y)), (5, .int (iI ht)), (6, .int (iI ch)), (7, .int (iI 1000000))] hl (by decide) rfl dX8_bestFrom_2 (fun ls hl => ?_)
  refine z_iconst C dX8_bestFrom_4 ?_
  refine z_istore C [1, 2, 3, 4, 5, 6, 7, 8, 0] [(0, .ref (a 100)), (1, .int (iI f)), (2, .int (iI rr)), (3, .int (iI x)), (4, .int (iI y)), (5, .int (iI ht)), (6, .int (iI ch)), (7, .int (iI 1000000)), (8, .int (iI 0))] hl (by decide) rfl dX8_bestFrom_5 (fun ls hl => ?_)
  have L_7 : ∀ (n : Nat) (le : Int) (ee : Int) (ls : Array Slot), (0 ≤ ee ∧ ee ≤ 25) → (le = mMnS 1000000 (jSF σ f rr x y ht ch) ee.toNat) → (0 ≤ le ∧ le ≤ 1000000) → ((25 - ee).toNat) < n → lv_has ls 10 [(0, .ref (a 100)), (1, .int (iI f)), (2, .int (iI rr)), (3, .int (iI x)), (4, .int (iI y)), (5, .int (iI ht)), (6, .int (iI ch)), (7, .int (iI le)), (8, .int (iI ee))] → W p l e (zR 2) s m ([.ref (a 100), .int (iI f), .int (iI rr), .int (iI x), .int (iI y), .int (iI ht), .int (iI ch)] : List Value).toArray below meth c s.heap [] 0 0 (MQ below (zSi (mMnS 1000000 (jSF σ f rr x y ht ch) 25)) ([.ref (a 100), .int (iI f), .int (iI rr), .int (iI x), .int (iI y), .int (iI ht), .int (iI ch)] : List Value).toArray s 0 0 zNo) (F0 m 7 ls []) := by
    intro n
    induction n with
    | zero =>
      intros; omega
    | succ n ih_7 =>
      intro le ee ls ie iv ib hm hl
      refine z_iload C hl 8 rfl dX8_bestFrom_7 ?_
      refine z_bipush C (by decide +kernel) dX8_bestFrom_9 ?_
      refine z_icmp_ge C 53 dX8_bestFrom_11 (by decide) ⟨by omega, by omega⟩ ⟨by omega, by omega⟩ (fun c_11 => ?_) (fun c_11 => ?_)
      · refine z_iload C hl 7 rfl dX8_bestFrom_53 ?_
        exact z_retSi C hr hlocks rfl (by rw [iv, show ee.toNat = 25 from (by omega)]) dX8_bestFrom_55
      · refine z_aload_n C hl 0 rfl dX8_bestFrom_14 ?_
        refine z_iload_n C hl 1 rfl dX8_bestFrom_15 ?_
        refine z_iload_n C hl 2 rfl dX8_bestFrom_16 ?_
        refine z_iload_n C hl 3 rfl dX8_bestFrom_17 ?_
        refine z_iload C hl 4 rfl dX8_bestFrom_18 ?_
        refine z_iload C hl 5 rfl dX8_bestFrom_20 ?_
        refine z_iload C hl 6 rfl dX8_bestFrom_22 ?_
        refine z_iload C hl 8 rfl dX8_bestFrom_24 ?_
        refine z_vSi C hP (As := [.int (iI f), .int (iI rr), .int (iI x), .int (iI y), .int (iI ht), .int (iI ch), .int (iI ee)]) lk_X8_236 (c_X8_secondsFrom hI σ f rr x y ht ch ee hf hrr hrd hho hx hy hht hch ⟨by omega, by omega⟩ (hq ee (by omega) (by omega)) hnb) ob_100 rfl rfl rfl hl.1 rfl (Nat.le_of_ble_eq_true rfl) ⟨Nat.le_of_ble_eq_true rfl, Nat.le_of_ble_eq_true rfl⟩ ⟨Nat.zero_le _, Nat.zero_le _⟩ dX8_bestFrom_26 ?_
        have hsb := jSF_b hrd hho hf hrr hx hy hht (hq ee (by omega) (by omega)) hnb (ch := ch) (e := ee) (by omega)
        refine z_topi (fun x1 hx1 => ?_)
        refine z_istore C [1, 2, 3, 4, 5, 6, 7, 8, 9, 0] [(0, .ref (a 100)), (1, .int (iI f)), (2, .int (iI rr)), (3, .int (iI x)), (4, .int (iI y)), (5, .int (iI ht)), (6, .int (iI ch)), (7, .int (iI le)), (8, .int (iI ee)), (9, .int (iI x1))] hl (by decide) rfl dX8_bestFrom_29 (fun ls hl => ?_)
        refine z_iload C hl 9 rfl dX8_bestFrom_31 ?_
        refine z_iload C hl 7 rfl dX8_bestFrom_33 ?_
        refine z_icmp_ge C 43 dX8_bestFrom_35 (by decide) ⟨by omega, by omega⟩ ⟨by omega, by omega⟩ (fun c_35 => ?_) (fun c_35 => ?_)
        · refine z_iload C hl 7 rfl dX8_bestFrom_43 ?_
          refine z_istore C [1, 2, 3, 4, 5, 6, 7, 0, 8, 9] [(0, .ref (a 100)), (1, .int (iI f)), (2, .int (iI rr)), (3, .int (iI x)), (4, .int (iI y)), (5, .int (iI ht)), (6, .int (iI ch)), (7, .int (iI le)), (8, .int (iI ee)), (9, .int (iI x1))] hl (by decide) rfl dX8_bestFrom_45 (fun ls hl => ?_)
          refine z_iinc C 8 [1, 2, 3, 4, 5, 6, 7, 8, 0, 9] [(0, .ref (a 100)), (1, .int (iI f)), (2, .int (iI rr)), (3, .int (iI x)), (4, .int (iI y)), (5, .int (iI ht)), (6, .int (iI ch)), (7, .int (iI le)), (8, .int (iI (ee + 1))), (9, .int (iI x1))] hl rfl (by decide) rfl dX8_bestFrom_47 (fun ls hl => ?_)
          refine z_goto C 7 dX8_bestFrom_50 (by decide) ?_
          exact ih_7 le (ee + 1) ls (by omega) (by rw [mMnS_s _ _ ie.1, ← iv, hx1]; omega) (by omega) (by omega) (lv_sub hl [0, 1, 2, 3, 4, 5, 6, 7, 8] rfl)
        · refine z_iload C hl 9 rfl dX8_bestFrom_38 ?_
          refine z_goto C 45 dX8_bestFrom_40 (by decide) ?_
          refine z_istore C [1, 2, 3, 4, 5, 6, 7, 0, 8, 9] [(0, .ref (a 100)), (1, .int (iI f)), (2, .int (iI rr)), (3, .int (iI x)), (4, .int (iI y)), (5, .int (iI ht)), (6, .int (iI ch)), (7, .int (iI x1)), (8, .int (iI ee)), (9, .int (iI x1))] hl (by decide) rfl dX8_bestFrom_45 (fun ls hl => ?_)
          refine z_iinc C 8 [1, 2, 3, 4, 5, 6, 7, 8, 0, 9] [(0, .ref (a 100)), (1, .int (iI f)), (2, .int (iI rr)), (3, .int (iI x)), (4, .int (iI y)), (5, .int (iI ht)), (6, .int (iI ch)), (7, .int (iI x1)), (8, .int (iI (ee + 1))), (9, .int (iI x1))] hl rfl (by decide) rfl dX8_bestFrom_47 (fun ls hl => ?_)
          refine z_goto C 7 dX8_bestFrom_50 (by decide) ?_
          exact ih_7 x1 (ee + 1) ls (by omega) (by rw [mMnS_s _ _ ie.1, ← iv, hx1]; omega) (by omega) (by omega) (lv_sub hl [0, 1, 2, 3, 4, 5, 6, 7, 8] rfl)
  exact L_7 _ 1000000 0 ls (by omega) (by rfl) (by omega) (Nat.lt_succ_self _) (lv_sub hl [0, 1, 2, 3, 4, 5, 6, 7, 8] rfl)
