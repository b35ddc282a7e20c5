def kAd (g C : Int → Int) : Prop := ∀ j : Int, C j = 0 ∨ (C j = 1 ∧ (g j = 5 ∨ g j = 6))
def kCo (C : Int → Int) (n : Nat) : Int := mSum (fun j => if C j = 1 then 16777216 + 2 ^ j.toNat else 0) n
def kVa (g C : Int → Int) (mo i : Int) : Prop := ∀ j : Int, 0 ≤ j → j < i → soS g C (j + 1).toNat ≤ mo
def kDc (g : Int → Int) (mo i : Int) (A : Int → Int) : Prop := (∀ s : Int, 0 ≤ s → s ≤ mo → (0 ≤ A s ∧ A s ≤ 1000000000) ∧ (A s = 1000000000 ∨ ∃ C : Int → Int, kAd g C ∧ kVa g C mo i ∧ soS g C i.toNat = s ∧ A s = kCo C i.toNat)) ∧ ∀ C : Int → Int, kAd g C → kVa g C mo i → A (soS g C i.toNat) ≤ kCo C i.toNat
def kE1 (g : Int → Int) (mo i : Int) (A : Int → Int) : Prop := ∀ s : Int, 0 ≤ s → s ≤ mo → (0 ≤ A s ∧ A s ≤ 1000000000) ∧ (A s = 1000000000 ∨ ∃ C : Int → Int, kAd g C ∧ kVa g C mo (i + 1) ∧ soS g C (i + 1).toNat = s ∧ A s = kCo C (i + 1).toNat)
def kE2 (g : Int → Int) (mo i q : Int) (A : Int → Int) : Prop := ∀ C : Int → Int, kAd g C → kVa g C mo (i + 1) → soS g C i.toNat < q → A (soS g C (i + 1).toNat) ≤ kCo C (i + 1).toNat
def kUp (A : Int → Int) (s v : Int) : Int → Int := fun t => if t = s then min (A s) v else A t
theorem kUp_le (A : Int → Int) (s v t : Int) : kUp A s v t ≤ A t := by
  unfold kUp
  split
  · rename_i h; rw [h]; omega
  · exact Int.le_refl _
theorem kUp_v (A : Int → Int) (s v : Int) : kUp A s v s ≤ v := by
  unfold kUp
  rw [if_pos rfl]
  omega
theorem kCo_s (C : Int → Int) {i : Int} (h : 0 ≤ i) : kCo C (i + 1).toNat = kCo C i.toNat + if C i = 1 then 16777216 + 2 ^ i.toNat else 0 := mSum_s _ h
theorem kCo_b (C : Int → Int) : ∀ n : Nat, 0 ≤ kCo C n ∧ kCo C n < 16777216 * n + 2 ^ n
  | 0 => ⟨Int.le_refl _, by show (0 : Int) < _; simp⟩
  | n + 1 => by
    have ih := kCo_b C n
    have e : (2 : Int) ^ (n + 1) = 2 * 2 ^ n := by rw [Int.pow_succ, Int.mul_comm]
    have hp : (0 : Int) < 2 ^ n := Int.pow_pos (by omega)
    rw [e]
    show 0 ≤ kCo C n + (if C n = 1 then 16777216 + 2 ^ (n : Int).toNat else 0) ∧ kCo C n + (if C n = 1 then 16777216 + 2 ^ (n : Int).toNat else 0) < _
    rw [Int.toNat_natCast]
    split <;> omega
theorem kCo_f (C : Int → Int) {n : Nat} (h : n ≤ 24) : 0 ≤ kCo C n ∧ kCo C n < 500000000 := by
  have h1 := kCo_b C n
  have h2 : (2 : Nat) ^ n ≤ 2 ^ 24 := Nat.pow_le_pow_right (by omega) h
  have e : ((2 ^ n : Nat) : Int) = 2 ^ n := by simp
  omega
theorem soS_c {g C C' : Int → Int} : ∀ {n : Nat}, (∀ j : Int, 0 ≤ j → j < n → C j = C' j) → soS g C n = soS g C' n
  | 0, _ => rfl
  | n + 1, h => by
    show (if C n = 1 then soS g C n else mSore (soS g C n) (g n)) = (if C' n = 1 then soS g C' n else mSore (soS g C' n) (g n))
    rw [h n (by omega) (by omega), soS_c (n := n) (fun j a b => h j a (by omega))]
theorem kCo_c {C C' : Int → Int} {n : Nat} (h : ∀ j : Int, 0 ≤ j → j < n → C j = C' j) : kCo C n = kCo C' n := mSum_c (fun j a b => by rw [h j a b])
theorem soS_nn (g C : Int → Int) : ∀ n : Nat, 0 ≤ soS g C n
  | 0 => Int.le_refl _
  | n + 1 => by
    have := soS_nn g C n
    show 0 ≤ if C n = 1 then soS g C n else mSore (soS g C n) (g n)
    split
    · exact this
    · unfold mSore
      (repeat' split) <;> omega
theorem kVa_s {g C : Int → Int} {mo i : Int} (h : kVa g C mo (i + 1)) : kVa g C mo i := fun j a b => h j a (by omega)
theorem soS_le {g C : Int → Int} {mo i : Int} (hi : 0 ≤ i) (hm : 0 ≤ mo) (h : kVa g C mo i) : soS g C i.toNat ≤ mo := by
  by_cases h0 : i = 0
  · rw [h0]; exact hm
  · have := h (i - 1) (by omega) (by omega)
    rwa [show i - 1 + 1 = i by omega] at this
def kSet (C : Int → Int) (i v : Int) : Int → Int := fun j => if j = i then v else C j
theorem kSet_p {g C : Int → Int} {mo i v : Int} (hi : 0 ≤ i) (ha : kAd g C) (hv : kVa g C mo i) (h1 : v = 0 ∨ (v = 1 ∧ (g i = 5 ∨ g i = 6))) (h2 : (if v = 1 then soS g C i.toNat else mSore (soS g C i.toNat) (g i)) ≤ mo) :
    kAd g (kSet C i v) ∧ kVa g (kSet C i v) mo (i + 1) ∧ soS g (kSet C i v) (i + 1).toNat = (if v = 1 then soS g C i.toNat else mSore (soS g C i.toNat) (g i)) ∧ kCo (kSet C i v) (i + 1).toNat = kCo C i.toNat + if v = 1 then 16777216 + 2 ^ i.toNat else 0 := by
  have e : kSet C i v i = v := if_pos rfl
  have ec : ∀ m : Int, m ≤ i → soS g (kSet C i v) m.toNat = soS g C m.toNat := fun m hm => soS_c (fun j a b => if_neg (by omega))
  have es : soS g (kSet C i v) (i + 1).toNat = (if v = 1 then soS g C i.toNat else mSore (soS g C i.toNat) (g i)) := by
    rw [soS_s _ _ hi, e, ec i (by omega)]
  refine ⟨fun j => ?_, fun j a b => ?_, es, ?_⟩
  · unfold kSet
    by_cases hj : j = i
    · rw [if_pos hj, hj]; exact h1
    · rw [if_neg hj]; exact ha j
  · by_cases hj : j = i
    · rw [hj, es]; exact h2
    · rw [ec (j + 1) (by omega)]
      exact hv j a (by omega)
  · rw [kCo_s _ hi, e, kCo_c (C := kSet C i v) (C' := C) (fun j a b => if_neg (by omega))]
theorem kE1_u {g : Int → Int} {mo i s v : Int} {A : Int → Int} (h : kE1 g mo i A) (hs : 0 ≤ s ∧ s ≤ mo) (hv : 0 ≤ v) (hc : ∃ C : Int → Int, kAd g C ∧ kVa g C mo (i + 1) ∧ soS g C (i + 1).toNat = s ∧ v = kCo C (i + 1).toNat) : kE1 g mo i (kUp A s v) := fun t h1 h2 => by
  have ht := h t h1 h2
  unfold kUp
  by_cases hts : t = s
  · rw [if_pos hts]
    subst hts
    by_cases hm : A t ≤ v
    · rw [show min (A t) v = A t by omega]
      exact ht
    · rw [show min (A t) v = v by omega]
      exact ⟨by omega, Or.inr hc⟩
  · rw [if_neg hts]
    exact ht
theorem kE2_u {g : Int → Int} {mo i q s v : Int} {A : Int → Int} (h : kE2 g mo i q A) : kE2 g mo i q (kUp A s v) := fun C a b c => Int.le_trans (kUp_le A s v _) (h C a b c)
theorem kE_far {g : Int → Int} {mo i q : Int} {A Bf : Int → Int} (hD : kDc g mo i A) (h2 : kE2 g mo i q Bf) (hi : 0 ≤ i ∧ i < 24) (hA : A q = 1000000000) : kE2 g mo i (q + 1) Bf := fun C a b c => by
  by_cases hq : soS g C i.toNat = q
  · have h := hD.2 C a (kVa_s b)
    have hb := kCo_f C (n := i.toNat) (by omega)
    rw [hq, hA] at h
    omega
  · exact h2 C a b (by omega)
theorem kE_step {g : Int → Int} {mo i q : Int} {A Bf B2 : Int → Int} (hD : kDc g mo i A) (h1 : kE1 g mo i Bf) (h2 : kE2 g mo i q Bf) (hm : 0 ≤ mo) (hq : 0 ≤ q ∧ q ≤ mo) (hi : 0 ≤ i ∧ i < 24) (hA : A q ≠ 1000000000)
    (hB : (g i = 5 ∨ g i = 6) ∧ B2 = kUp (if mSore q (g i) ≤ mo then kUp Bf (mSore q (g i)) (A q) else Bf) q (A q + 16777216 + 2 ^ i.toNat) ∨ (¬ (g i = 5 ∨ g i = 6)) ∧ B2 = if mSore q (g i) ≤ mo then kUp Bf (mSore q (g i)) (A q) else Bf) : kE1 g mo i B2 ∧ kE2 g mo i (q + 1) B2 := by
  have hd := hD.1 q hq.1 hq.2
  obtain ⟨C0, c1, c2, c3, c4⟩ : ∃ C : Int → Int, kAd g C ∧ kVa g C mo i ∧ soS g C i.toNat = q ∧ A q = kCo C i.toNat := by
    rcases hd.2 with h | h
    · exact absurd h hA
    · exact h
  have hs0 : 0 ≤ mSore q (g i) := by
    unfold mSore
    (repeat' split) <;> omega
  have k1 : kE1 g mo i (if mSore q (g i) ≤ mo then kUp Bf (mSore q (g i)) (A q) else Bf) := by
    by_cases hc : mSore q (g i) ≤ mo
    · rw [if_pos hc]
      have p := kSet_p (v := 0) hi.1 c1 c2 (Or.inl rfl) (by rw [if_neg (by decide), c3]; exact hc)
      rw [if_neg (by decide), if_neg (by decide), c3, ← c4, Int.add_zero] at p
      exact kE1_u h1 ⟨hs0, hc⟩ hd.1.1 ⟨kSet C0 i 0, p.1, p.2.1, p.2.2.1, p.2.2.2.symm⟩
    · rw [if_neg hc]
      exact h1
  have k2 : kE2 g mo i q (if mSore q (g i) ≤ mo then kUp Bf (mSore q (g i)) (A q) else Bf) := by
    split
    · exact kE2_u h2
    · exact h2
  have k3 : ∀ C : Int → Int, kAd g C → kVa g C mo (i + 1) → soS g C i.toNat = q → ¬ C i = 1 → (if mSore q (g i) ≤ mo then kUp Bf (mSore q (g i)) (A q) else Bf) (soS g C (i + 1).toNat) ≤ kCo C (i + 1).toNat := fun C a b c d => by
    have e := b i hi.1 (by omega)
    have e2 := hD.2 C a (kVa_s b)
    rw [soS_s _ _ hi.1, if_neg d, c] at e ⊢
    rw [kCo_s _ hi.1, if_neg d, if_pos e]
    rw [c] at e2
    have := kUp_v Bf (mSore q (g i)) (A q)
    omega
  have hp : (0 : Int) < 2 ^ i.toNat := Int.pow_pos (by omega)
  rcases hB with ⟨hg, rfl⟩ | ⟨hg, rfl⟩
  · have p := kSet_p (v := 1) hi.1 c1 c2 (Or.inr ⟨rfl, hg⟩) (by rw [if_pos rfl, c3]; exact hq.2)
    rw [if_pos rfl, if_pos rfl, c3, ← c4] at p
    refine ⟨kE1_u k1 hq (by omega) ⟨kSet C0 i 1, p.1, p.2.1, p.2.2.1, by rw [p.2.2.2]; omega⟩, fun C a b c => ?_⟩
    by_cases hC : soS g C i.toNat = q
    · by_cases hC1 : C i = 1
      · have e2 := hD.2 C a (kVa_s b)
        have e3 := kUp_v (if mSore q (g i) ≤ mo then kUp Bf (mSore q (g i)) (A q) else Bf) q (A q + 16777216 + 2 ^ i.toNat)
        rw [soS_s _ _ hi.1, if_pos hC1, hC, kCo_s _ hi.1, if_pos hC1]
        rw [hC] at e2
        omega
      · exact Int.le_trans (kUp_le _ _ _ _) (k3 C a b hC hC1)
    · exact Int.le_trans (kUp_le _ _ _ _) (k2 C a b (by omega))
  · refine ⟨k1, fun C a b c => ?_⟩
    by_cases hC : soS g C i.toNat = q
    · have hC1 : ¬ C i = 1 := fun q => by rcases a i with h | h; omega; exact hg h.2
      exact k3 C a b hC hC1
    · exact k2 C a b (by omega)
theorem kE_end {g : Int → Int} {mo i : Int} {A : Int → Int} (hm : 0 ≤ mo) (hi : 0 ≤ i) (h1 : kE1 g mo i A) (h2 : kE2 g mo i (mo + 1) A) : kDc g mo (i + 1) A := ⟨h1, fun C a b => h2 C a b (by have := soS_le hi hm (kVa_s b); omega)⟩
theorem kD_0 {g : Int → Int} {mo : Int} {A : Int → Int} (h : ∀ s : Int, 0 ≤ s → s ≤ mo → A s = if s = 0 then 0 else 1000000000) (hm : 0 ≤ mo) : kDc g mo 0 A := by
  refine ⟨fun s h1 h2 => ?_, fun C a b => ?_⟩
  · rw [h s h1 h2]
    by_cases hs : s = 0
    · rw [if_pos hs]
      exact ⟨by decide, Or.inr ⟨fun _ => 0, fun _ => Or.inl rfl, fun j a b => by omega, hs.symm, rfl⟩⟩
    · rw [if_neg hs]
      exact ⟨by decide, Or.inl rfl⟩
  · show A 0 ≤ 0
    rw [h 0 (by decide) hm]
    decide
theorem kD_end {g : Int → Int} {mo n : Int} {A : Int → Int} (hm : 0 ≤ mo) (hn : 0 ≤ n ∧ n ≤ 24) (hD : kDc g mo n A) : ∃ C : Int → Int, kAd g C ∧ kVa g C mo n ∧ mMnS 1000000000 A (mo + 1).toNat = kCo C n.toNat ∧ ∀ C' : Int → Int, kAd g C' → kVa g C' mo n → mMnS 1000000000 A (mo + 1).toNat ≤ kCo C' n.toNat := by
  have lo : ∀ C' : Int → Int, kAd g C' → kVa g C' mo n → mMnS 1000000000 A (mo + 1).toNat ≤ kCo C' n.toNat := fun C' a b => by
    have h1 := soS_le hn.1 hm b
    have h2 := soS_nn g C' n.toNat
    exact Int.le_trans (mMnS_lf 1000000000 A (mo + 1).toNat (soS g C' n.toNat) h2 (by omega)) (hD.2 C' a b)
  have ca : kAd g (fun j => if g j = 5 ∨ g j = 6 then 1 else 0) := fun j => by
    show (if g j = 5 ∨ g j = 6 then (1 : Int) else 0) = 0 ∨ ((if g j = 5 ∨ g j = 6 then (1 : Int) else 0) = 1 ∧ _)
    by_cases h : g j = 5 ∨ g j = 6
    · rw [if_pos h]; exact Or.inr ⟨rfl, h⟩
    · rw [if_neg h]; exact Or.inl rfl
  have cz : ∀ m : Nat, soS g (fun j => if g j = 5 ∨ g j = 6 then 1 else 0) m = 0 := by
    intro m
    induction m with
    | zero => rfl
    | succ m ih =>
      show (if (if g m = 5 ∨ g m = 6 then (1 : Int) else 0) = 1 then soS g _ m else mSore (soS g _ m) (g m)) = 0
      rw [ih]
      by_cases h : g m = 5 ∨ g m = 6
      · rw [if_pos h, if_pos rfl]
      · rw [if_neg h, if_neg (by decide)]
        unfold mSore
        rw [if_neg (by omega), if_neg (by omega)]
        rfl
  have cl := lo _ ca (fun j a b => by rw [cz]; exact hm)
  have cb := kCo_f (fun j => if g j = 5 ∨ g j = 6 then 1 else 0) (n := n.toNat) (by omega)
  rcases mMnS_at 1000000000 A (mo + 1).toNat with h | ⟨s, h1, h2, h3⟩
  · omega
  · rcases (hD.1 s h1 (by omega)).2 with h | ⟨C, c1, c2, c3, c4⟩
    · omega
    · exact ⟨C, c1, c2, by omega, lo⟩
theorem mSore_nn {s c : Int} (h : 0 ≤ s) : 0 ≤ mSore s c ∧ mSore s c ≤ s + 3 := by
  unfold mSore
  (repeat' split) <;> omega
theorem two24 {i : Int} (h : 0 ≤ i ∧ i < 24) : (1 : Int) ≤ 2 ^ i.toNat ∧ (2 : Int) ^ i.toNat ≤ 16777216 := by
  have q : (2 : Nat) ^ i.toNat ≤ 2 ^ 24 := Nat.pow_le_pow_right (by omega) (by omega)
  have q1 : 1 ≤ (2 : Nat) ^ i.toNat := Nat.one_le_two_pow
  have e : ((2 ^ i.toNat : Nat) : Int) = 2 ^ i.toNat := by simp
  omega
theorem kUp_b {A : Int → Int} {s v t : Int} (h : 0 ≤ A t ∧ A t ≤ 1000000000) (hv : 0 ≤ v) : 0 ≤ kUp A s v t ∧ kUp A s v t ≤ 1000000000 := by
  unfold kUp
  split
  · rename_i q; rw [← q]; omega
  · exact h
theorem zU_fn (σ : zS) (c p v : Int) : zU σ c p v c = fun b => if b = p then v else σ c b := by
  funext b
  unfold zU
  simp

set_option maxRecDepth 20000 in
set_option maxHeartbeats 4000000 in
theorem c_X5_keepFewer {l : Launch} {D : va_G} {Y : Nat → ClassId} {a : Int → Nat} (hI : zI a) (σ : zS) (sr v : Int) (hcf : (σ 15 10 = 23 ∧ σ 15 11 = 24) ∨ (σ 15 10 = 24 ∧ σ 15 11 = 23)) (hs : 0 ≤ sr ∧ sr ≤ 20) (hb : 0 ≤ σ (σ 15 11) sr ∧ σ (σ 15 11) sr ≤ 1000000000) (hv : 0 ≤ v ∧ v ≤ 1100000000) : zMet l yX5_keepFewer cX5_keepFewer 3 none 1 (zPc D Y a σ [.ref (a 15), .int (iI sr), .int (iI v)]) (zQv D Y a (fun τ => τ = zU σ (σ 15 11) sr (min (σ (σ 15 11) sr) v))) (inA a) := by
  refine z_start rfl (Nat.le_of_ble_eq_true rfl) hI ?_
  intro p e s m below meth c ls C hr hlocks hl hP
  have hS : va_S (inA a) s.heap s.heap [] := va_S.rf
  have hl : lv_has ls 3 [(0, .ref (a 15)), (1, .int (iI sr)), (2, .int (iI v))] := hl
  skip
  refine z_aload_n C hl 0 rfl dX5_keepFewer_0 ?_
  refine zg_X5_36 C hP dX5_keepFewer_1 ?_
  refine z_iload_n C hl 1 rfl dX5_keepFewer_4 ?_
  refine z_aload_n C hl 0 rfl dX5_keepFewer_5 ?_
  refine zg_X5_36 C hP dX5_keepFewer_6 ?_
  refine z_iload_n C hl 1 rfl dX5_keepFewer_9 ?_
  refine z_iald C hP (ia_so (by omega)) ⟨by omega, by omega⟩ dX5_keepFewer_10 ?_
  refine z_iload_n C hl 2 rfl dX5_keepFewer_11 ?_
  refine z_min C ⟨by omega, by omega⟩ ⟨by omega, by omega⟩ wd_533 hl.1 ⟨(Nat.le_of_ble_eq_true rfl), (Nat.le_of_ble_eq_true rfl)⟩ ⟨Nat.zero_le _, Nat.zero_le _⟩ dX5_keepFewer_12 ?_
  refine z_iast C hP hS (ia_so (by omega)) ⟨by omega, by omega⟩ dX5_keepFewer_15 (fun H locs hP hS => ?_)
  obtain ⟨t1, et1⟩ : ∃ z : zS, z = zU σ (σ 15 11) sr (min (σ (σ 15 11) sr) v) := ⟨_, rfl⟩
  rw [← et1] at hP
  exact z_retQv C hP hS hr hlocks (by exact et1) dX5_keepFewer_16

set_option maxRecDepth 20000 in
set_option maxHeartbeats 4000000 in
theorem c_X5_fewestCalls {l : Launch} {D : va_G} {Y : Nat → ClassId} {a : Int → Nat} (hI : zI a) (σ : zS) (mo : Int) (hn : 1 ≤ σ 32 12 ∧ σ 32 12 ≤ 24) (hg : ∀ i : Int, 0 ≤ i → i < 24 → -1 ≤ σ 35 i ∧ σ 35 i ≤ 6) (hcf : (σ 15 10 = 23 ∧ σ 15 11 = 24) ∨ (σ 15 10 = 24 ∧ σ 15 11 = 23)) (hmo : 0 ≤ mo ∧ mo ≤ 20) : zMet l yX5_fewestCalls cX5_fewestCalls 8 (some .int) 2 (zPc D Y a σ [.ref (a 15), .ref (a 32), .int (iI mo)]) (zQi D Y a (fun r τ => (∃ C : Int → Int, kAd (σ 35) C ∧ kVa (σ 35) C mo (σ 32 12) ∧ r = kCo C (σ 32 12).toNat ∧ ∀ C' : Int → Int, kAd (σ 35) C' → kVa (σ 35) C' mo (σ 32 12) → r ≤ kCo C' (σ 32 12).toNat) ∧ ((∀ c : Int, c ≠ 15 → c ≠ 23 → c ≠ 24 → τ c = σ c) ∧ ∀ j : Int, j ≠ 10 → j ≠ 11 → τ 15 j = σ 15 j) ∧ ((τ 15 10 = 23 ∧ τ 15 11 = 24) ∨ (τ 15 10 = 24 ∧ τ 15 11 = 23)))) (inA a) := by
  refine z_start rfl (Nat.le_of_ble_eq_true rfl) hI ?_
  intro p e s m below meth c ls C hr hlocks hl hP
  have hS : va_S (inA a) s.heap s.heap [] := va_S.rf
  have hl : lv_has ls 8 [(0, .ref (a 15)), (1, .ref (a 32)), (2, .int (iI mo))] := hl
  skip
  refine z_iconst C dX5_fewestCalls_0 ?_
  refine z_istore_n C [1, 2, 3, 0] [(0, .ref (a 15)), (1, .ref (a 32)), (2, .int (iI mo)), (3, .int (iI 0))] hl (by decide) rfl dX5_fewestCalls_1 (fun ls hl => ?_)
  have L_2 : ∀ (n : Nat) (s0 : Int) (τ : zS) (H : Heap) (locs : List Loc) (hP : GP D Y a τ H) (hS : va_S (inA a) s.heap H locs) (ls : Array Slot), (0 ≤ s0 ∧ s0 ≤ mo + 1) → ((∀ c : Int, c ≠ 15 → c ≠ 23 → c ≠ 24 → τ c = σ c) ∧ ∀ j : Int, j ≠ 10 → j ≠ 11 → τ 15 j = σ 15 j) → ((τ 15 10 = 23 ∧ τ 15 11 = 24) ∨ (τ 15 10 = 24 ∧ τ 15 11 = 23)) → (∀ j : Int, 0 ≤ j → j < s0 → τ (τ 15 10) j = if j = 0 then 0 else 1000000000) → ((mo + 1 - s0).toNat) < n → lv_has ls 8 [(0, .ref (a 15)), (1, .ref (a 32)), (2, .int (iI mo)), (3, .int (iI s0))] → W p l e (zR 2) s m ([.ref (a 15), .ref (a 32), .int (iI mo)] : List Value).toArray below meth c H locs 0 0 (MQ below (zQi D Y a (fun r τ => (∃ C : Int → Int, kAd (σ 35) C ∧ kVa (σ 35) C mo (σ 32 12) ∧ r = kCo C (σ 32 12).toNat ∧ ∀ C' : Int → Int, kAd (σ 35) C' → kVa (σ 35) C' mo (σ 32 12) → r ≤ kCo C' (σ 32 12).toNat) ∧ ((∀ c : Int, c ≠ 15 → c ≠ 23 → c ≠ 24 → τ c = σ c) ∧ ∀ j : Int, j ≠ 10 → j ≠ 11 → τ 15 j = σ 15 j) ∧ ((τ 15 10 = 23 ∧ τ 15 11 = 24) ∨ (τ 15 10 = 24 ∧ τ 15 11 = 23)))) ([.ref (a 15), .ref (a 32), .int (iI mo)] : List Value).toArray s 0 0 (inA a)) (F0 m 2 ls []) := by
    intro n
    induction n with
    | zero =>
      intros; omega
    | succ n ih_2 =>
      intro s0 τ H locs hP hS ls is fτ kτ zτ hm hl
      refine z_iload_n C hl 3 rfl dX5_fewestCalls_2 ?_
      refine z_iload_n C hl 2 rfl dX5_fewestCalls_3 ?_
      refine z_icmp_gt C 29 dX5_fewestCalls_4 (by decide) ⟨by omega, by omega⟩ ⟨by omega, by omega⟩ (fun c_4 => ?_) (fun c_4 => ?_)
      · refine z_iconst C dX5_fewestCalls_29 ?_
        refine z_istore_n C [1, 2, 3, 0] [(0, .ref (a 15)), (1, .ref (a 32)), (2, .int (iI mo)), (3, .int (iI 0))] hl (by decide) rfl dX5_fewestCalls_30 (fun ls hl => ?_)
        have L_31 : ∀ (n : Nat) (i : Int) (τ : zS) (H : Heap) (locs : List Loc) (hP : GP D Y a τ H) (hS : va_S (inA a) s.heap H locs) (ls : Array Slot), (0 ≤ i ∧ i ≤ σ 32 12) → ((∀ c : Int, c ≠ 15 → c ≠ 23 → c ≠ 24 → τ c = σ c) ∧ ∀ j : Int, j ≠ 10 → j ≠ 11 → τ 15 j = σ 15 j) → ((τ 15 10 = 23 ∧ τ 15 11 = 24) ∨ (τ 15 10 = 24 ∧ τ 15 11 = 23)) → (kDc (σ 35) mo i (τ (τ 15 10))) → ((σ 32 12 - i).toNat) < n → lv_has ls 8 [(0, .ref (a 15)), (1, .ref (a 32)), (2, .int (iI mo)), (3, .int (iI i))] → W p l e (zR 2) s m ([.ref (a 15), .ref (a 32), .int (iI mo)] : List Value).toArray below meth c H locs 0 0 (MQ below (zQi D Y a (fun r τ => (∃ C : Int → Int, kAd (σ 35) C ∧ kVa (σ 35) C mo (σ 32 12) ∧ r = kCo C (σ 32 12).toNat ∧ ∀ C' : Int → Int, kAd (σ 35) C' → kVa (σ 35) C' mo (σ 32 12) → r ≤ kCo C' (σ 32 12).toNat) ∧ ((∀ c : Int, c ≠ 15 → c ≠ 23 → c ≠ 24 → τ c = σ c) ∧ ∀ j : Int, j ≠ 10 → j ≠ 11 → τ 15 j = σ 15 j) ∧ ((τ 15 10 = 23 ∧ τ 15 11 = 24) ∨ (τ 15 10 = 24 ∧ τ 15 11 = 23)))) ([.ref (a 15), .ref (a 32), .int (iI mo)] : List Value).toArray s 0 0 (inA a)) (F0 m 31 ls []) := by
          intro n
          induction n with
          | zero =>
            intros; omega
          | succ n ih_31 =>
            intro i τ H locs hP hS ls ii fτ kτ dτ hm hl
            have hgi := fun h => hg i ii.1 h
            refine z_iload_n C hl 3 rfl dX5_fewestCalls_31 ?_
            refine z_aload_n C hl 1 rfl dX5_fewestCalls_32 ?_
            refine zg32_X5_65 C hP dX5_fewestCalls_33 ?_
            rw [show τ 32 12 = σ 32 12 from by rw [fτ.1 32 (by omega) (by omega) (by omega)]]
            refine z_icmp_ge C 200 dX5_fewestCalls_36 (by decide) ⟨by omega, by omega⟩ ⟨by omega, by omega⟩ (fun c_36 => ?_) (fun c_36 => ?_)
            · refine z_ldc C (z := 1000000000) wd_521 (by decide +kernel) dX5_fewestCalls_200 ?_
              refine z_istore_n C [1, 2, 3, 0] [(0, .ref (a 15)), (1, .ref (a 32)), (2, .int (iI mo)), (3, .int (iI 1000000000))] hl (by decide) rfl dX5_fewestCalls_202 (fun ls hl => ?_)
              refine z_iconst C dX5_fewestCalls_203 ?_
              refine z_istore C [1, 2, 3, 4, 0] [(0, .ref (a 15)), (1, .ref (a 32)), (2, .int (iI mo)), (3, .int (iI 1000000000)), (4, .int (iI 0))] hl (by decide) rfl dX5_fewestCalls_204 (fun ls hl => ?_)
              have L_206 : ∀ (n : Nat) (le : Int) (s2 : Int) (τ : zS) (H : Heap) (locs : List Loc) (hP : GP D Y a τ H) (hS : va_S (inA a) s.heap H locs) (ls : Array Slot), (0 ≤ s2 ∧ s2 ≤ mo + 1) → ((∀ c : Int, c ≠ 15 → c ≠ 23 → c ≠ 24 → τ c = σ c) ∧ ∀ j : Int, j ≠ 10 → j ≠ 11 → τ 15 j = σ 15 j) → ((τ 15 10 = 23 ∧ τ 15 11 = 24) ∨ (τ 15 10 = 24 ∧ τ 15 11 = 23)) → (kDc (σ 35) mo i (τ (τ 15 10))) → (le = mMnS 1000000000 (τ (τ 15 10)) s2.toNat) → (0 ≤ le ∧ le ≤ 1000000000) → ((mo + 1 - s2).toNat) < n → lv_has ls 8 [(0, .ref (a 15)), (1, .ref (a 32)), (2, .int (iI mo)), (3, .int (iI le)), (4, .int (iI s2))] → W p l e (zR 2) s m ([.ref (a 15), .ref (a 32), .int (iI mo)] : List Value).toArray below meth c H locs 0 0 (MQ below (zQi D Y a (fun r τ => (∃ C : Int → Int, kAd (σ 35) C ∧ kVa (σ 35) C mo (σ 32 12) ∧ r = kCo C (σ 32 12).toNat ∧ ∀ C' : Int → Int, kAd (σ 35) C' → kVa (σ 35) C' mo (σ 32 12) → r ≤ kCo C' (σ 32 12).toNat) ∧ ((∀ c : Int, c ≠ 15 → c ≠ 23 → c ≠ 24 → τ c = σ c) ∧ ∀ j : Int, j ≠ 10 → j ≠ 11 → τ 15 j = σ 15 j) ∧ ((τ 15 10 = 23 ∧ τ 15 11 = 24) ∨ (τ 15 10 = 24 ∧ τ 15 11 = 23)))) ([.ref (a 15), .ref (a 32), .int (iI mo)] : List Value).toArray s 0 0 (inA a)) (F0 m 206 ls []) := by
                intro n
                induction n with
                | zero =>
                  intros; omega
                | succ n ih_206 =>
                  intro le s2 τ H locs hP hS ls is fτ kτ dτ iv ib hm hl
                  have hdb : s2 ≤ mo → 0 ≤ τ (τ 15 10) s2 ∧ τ (τ 15 10) s2 ≤ 1000000000 := fun h => (dτ.1 s2 is.1 h).1
                  refine z_iload C hl 4 rfl dX5_fewestCalls_206 ?_
                  refine z_iload_n C hl 2 rfl dX5_fewestCalls_208 ?_
                  refine z_icmp_gt C 230 dX5_fewestCalls_209 (by decide) ⟨by omega, by omega⟩ ⟨by omega, by omega⟩ (fun c_209 => ?_) (fun c_209 => ?_)
                  · refine z_iload_n C hl 3 rfl dX5_fewestCalls_230 ?_
                    exact z_retQi C hP hS hr hlocks rfl (by have hie : σ 32 12 = i := (by omega); rw [← hie] at dτ; have hend := kD_end hmo.1 (by omega) dτ; rw [show (mo + 1).toNat = s2.toNat from (by omega), ← iv] at hend; exact ⟨hend, fτ, kτ⟩) dX5_fewestCalls_231
                  · refine z_iload_n C hl 3 rfl dX5_fewestCalls_212 ?_
                    refine z_aload_n C hl 0 rfl dX5_fewestCalls_213 ?_
                    refine zg_X5_33 C hP dX5_fewestCalls_214 ?_
                    refine z_iload C hl 4 rfl dX5_fewestCalls_217 ?_
                    refine z_iald C hP (ia_so (by omega)) ⟨by omega, by omega⟩ dX5_fewestCalls_219 ?_
                    refine z_min C ⟨by omega, by omega⟩ ⟨by omega, by omega⟩ wd_533 hl.1 ⟨(Nat.le_of_ble_eq_true rfl), (Nat.le_of_ble_eq_true rfl)⟩ ⟨Nat.zero_le _, Nat.zero_le _⟩ dX5_fewestCalls_220 ?_
                    refine z_topi (fun x1 hx1 => ?_)
                    refine z_istore_n C [1, 2, 3, 0, 4] [(0, .ref (a 15)), (1, .ref (a 32)), (2, .int (iI mo)), (3, .int (iI x1)), (4, .int (iI s2))] hl (by decide) rfl dX5_fewestCalls_223 (fun ls hl => ?_)
                    refine z_iinc C 4 [1, 2, 3, 4, 0] [(0, .ref (a 15)), (1, .ref (a 32)), (2, .int (iI mo)), (3, .int (iI x1)), (4, .int (iI (s2 + 1)))] hl rfl (by decide) rfl dX5_fewestCalls_224 (fun ls hl => ?_)
                    refine z_goto C 206 dX5_fewestCalls_227 (by decide) ?_
                    exact ih_206 x1 (s2 + 1) τ H locs hP hS ls (by omega) (by exact fτ) (by exact kτ) (by exact dτ) (by rw [mMnS_s _ _ is.1, ← iv]; omega) (by omega) (by omega) (lv_sub hl [0, 1, 2, 3, 4] rfl)
              exact L_206 _ 1000000000 0 τ _ _ hP hS ls (by omega) (by exact fτ) (by exact kτ) (by exact dτ) (by rfl) (by omega) (Nat.lt_succ_self _) (lv_sub hl [0, 1, 2, 3, 4] rfl)
            · refine z_aload_n C hl 1 rfl dX5_fewestCalls_39 ?_
              refine zg32_X5_68 C hP dX5_fewestCalls_40 ?_
              refine z_iload_n C hl 3 rfl dX5_fewestCalls_43 ?_
              refine z_iald C hP ia_35 ⟨by omega, by omega⟩ dX5_fewestCalls_44 ?_
              rw [show τ 35 i = σ 35 i from by rw [fτ.1 35 (by omega) (by omega) (by omega)]]
              refine z_istore C [1, 2, 3, 4, 0] [(0, .ref (a 15)), (1, .ref (a 32)), (2, .int (iI mo)), (3, .int (iI i)), (4, .int (iI (σ 35 i)))] hl (by decide) rfl dX5_fewestCalls_45 (fun ls hl => ?_)
              refine z_iload C hl 4 rfl dX5_fewestCalls_47 ?_
              refine z_iconst C dX5_fewestCalls_49 ?_
              refine z_icmp_eq C 60 dX5_fewestCalls_50 (by decide) ⟨by omega, by omega⟩ ⟨by omega, by omega⟩ (fun c_50 => ?_) (fun c_50 => ?_)
              · refine z_iconst C dX5_fewestCalls_60 ?_
                refine z_goto C 65 dX5_fewestCalls_61 (by decide) ?_
                refine z_istore C [1, 2, 3, 4, 5, 0] [(0, .ref (a 15)), (1, .ref (a 32)), (2, .int (iI mo)), (3, .int (iI i)), (4, .int (iI (σ 35 i))), (5, .int (iI 1))] hl (by decide) rfl dX5_fewestCalls_65 (fun ls hl => ?_)
                refine z_iconst C dX5_fewestCalls_67 ?_
                refine z_istore C [1, 2, 3, 4, 5, 6, 0] [(0, .ref (a 15)), (1, .ref (a 32)), (2, .int (iI mo)), (3, .int (iI i)), (4, .int (iI (σ 35 i))), (5, .int (iI 1)), (6, .int (iI 0))] hl (by decide) rfl dX5_fewestCalls_68 (fun ls hl => ?_)
                have L_70 : ∀ (n : Nat) (s1 : Int) (τ : zS) (H : Heap) (locs : List Loc) (hP : GP D Y a τ H) (hS : va_S (inA a) s.heap H locs) (ls : Array Slot), (0 ≤ s1 ∧ s1 ≤ mo + 1) → ((∀ c : Int, c ≠ 15 → c ≠ 23 → c ≠ 24 → τ c = σ c) ∧ ∀ j : Int, j ≠ 10 → j ≠ 11 → τ 15 j = σ 15 j) → ((τ 15 10 = 23 ∧ τ 15 11 = 24) ∨ (τ 15 10 = 24 ∧ τ 15 11 = 23)) → (kDc (σ 35) mo i (τ (τ 15 10))) → (∀ j : Int, 0 ≤ j → j < s1 → τ (τ 15 11) j = 1000000000) → ((mo + 1 - s1).toNat) < n → lv_has ls 8 [(0, .ref (a 15)), (1, .ref (a 32)), (2, .int (iI mo)), (3, .int (iI i)), (4, .int (iI (σ 35 i))), (5, .int (iI 1)), (6, .int (iI s1))] → W p l e (zR 2) s m ([.ref (a 15), .ref (a 32), .int (iI mo)] : List Value).toArray below meth c H locs 0 0 (MQ below (zQi D Y a (fun r τ => (∃ C : Int → Int, kAd (σ 35) C ∧ kVa (σ 35) C mo (σ 32 12) ∧ r = kCo C (σ 32 12).toNat ∧ ∀ C' : Int → Int, kAd (σ 35) C' → kVa (σ 35) C' mo (σ 32 12) → r ≤ kCo C' (σ 32 12).toNat) ∧ ((∀ c : Int, c ≠ 15 → c ≠ 23 → c ≠ 24 → τ c = σ c) ∧ ∀ j : Int, j ≠ 10 → j ≠ 11 → τ 15 j = σ 15 j) ∧ ((τ 15 10 = 23 ∧ τ 15 11 = 24) ∨ (τ 15 10 = 24 ∧ τ 15 11 = 23)))) ([.ref (a 15), .ref (a 32), .int (iI mo)] : List Value).toArray s 0 0 (inA a)) (F0 m 70 ls []) := by
                  intro n
                  induction n with
                  | zero =>
                    intros; omega
                  | succ n ih_70 =>
                    intro s1 τ H locs hP hS ls is fτ kτ dτ zτ hm hl
                    refine z_iload C hl 6 rfl dX5_fewestCalls_70 ?_
                    refine z_iload_n C hl 2 rfl dX5_fewestCalls_72 ?_
                    refine z_icmp_gt C 91 dX5_fewestCalls_73 (by decide) ⟨by omega, by omega⟩ ⟨by omega, by omega⟩ (fun c_73 => ?_) (fun c_73 => ?_)
                    · refine z_iconst C dX5_fewestCalls_91 ?_
                      refine z_istore C [1, 2, 3, 4, 5, 6, 0] [(0, .ref (a 15)), (1, .ref (a 32)), (2, .int (iI mo)), (3, .int (iI i)), (4, .int (iI (σ 35 i))), (5, .int (iI 1)), (6, .int (iI 0))] hl (by decide) rfl dX5_fewestCalls_92 (fun ls hl => ?_)
                      have L_94 : ∀ (n : Nat) (sr : Int) (τ : zS) (H : Heap) (locs : List Loc) (hP : GP D Y a τ H) (hS : va_S (inA a) s.heap H locs) (ls : Array Slot), (0 ≤ sr ∧ sr ≤ mo + 1) → ((∀ c : Int, c ≠ 15 → c ≠ 23 → c ≠ 24 → τ c = σ c) ∧ ∀ j : Int, j ≠ 10 → j ≠ 11 → τ 15 j = σ 15 j) → ((τ 15 10 = 23 ∧ τ 15 11 = 24) ∨ (τ 15 10 = 24 ∧ τ 15 11 = 23)) → (kDc (σ 35) mo i (τ (τ 15 10))) → (kE1 (σ 35) mo i (τ (τ 15 11))) → (kE2 (σ 35) mo i sr (τ (τ 15 11))) → ((mo + 1 - sr).toNat) < n → lv_has ls 8 [(0, .ref (a 15)), (1, .ref (a 32)), (2, .int (iI mo)), (3, .int (iI i)), (4, .int (iI (σ 35 i))), (5, .int (iI 1)), (6, .int (iI sr))] → W p l e (zR 2) s m ([.ref (a 15), .ref (a 32), .int (iI mo)] : List Value).toArray below meth c H locs 0 0 (MQ below (zQi D Y a (fun r τ => (∃ C : Int → Int, kAd (σ 35) C ∧ kVa (σ 35) C mo (σ 32 12) ∧ r = kCo C (σ 32 12).toNat ∧ ∀ C' : Int → Int, kAd (σ 35) C' → kVa (σ 35) C' mo (σ 32 12) → r ≤ kCo C' (σ 32 12).toNat) ∧ ((∀ c : Int, c ≠ 15 → c ≠ 23 → c ≠ 24 → τ c = σ c) ∧ ∀ j : Int, j ≠ 10 → j ≠ 11 → τ 15 j = σ 15 j) ∧ ((τ 15 10 = 23 ∧ τ 15 11 = 24) ∨ (τ 15 10 = 24 ∧ τ 15 11 = 23)))) ([.ref (a 15), .ref (a 32), .int (iI mo)] : List Value).toArray s 0 0 (inA a)) (F0 m 94 ls []) := by
                        intro n
                        induction n with
                        | zero =>
                          intros; omega
                        | succ n ih_94 =>
                          intro sr τ H locs hP hS ls is fτ kτ dτ e1τ e2τ hm hl
                          have hdb : sr ≤ mo → 0 ≤ τ (τ 15 10) sr ∧ τ (τ 15 10) sr ≤ 1000000000 := fun h => (dτ.1 sr is.1 h).1
                          have htl := two24 (i := i) (by omega)
                          have wτ : ∀ s : Int, 0 ≤ s → s ≤ mo → 0 ≤ τ (τ 15 11) s ∧ τ (τ 15 11) s ≤ 1000000000 := fun s a b => (e1τ s a b).1
                          refine z_iload C hl 6 rfl dX5_fewestCalls_94 ?_
                          refine z_iload_n C hl 2 rfl dX5_fewestCalls_96 ?_
                          refine z_icmp_gt C 174 dX5_fewestCalls_97 (by decide) ⟨by omega, by omega⟩ ⟨by omega, by omega⟩ (fun c_97 => ?_) (fun c_97 => ?_)
                          · refine z_aload_n C hl 0 rfl dX5_fewestCalls_174 ?_
                            refine zg_X5_36 C hP dX5_fewestCalls_175 ?_
                            refine z_astore C [1, 2, 3, 4, 5, 6, 0] [(0, .ref (a 15)), (1, .ref (a 32)), (2, .int (iI mo)), (3, .int (iI i)), (4, .int (iI (σ 35 i))), (5, .int (iI 1)), (6, .ref (a (τ 15 11)))] hl (by decide) rfl dX5_fewestCalls_178 (fun ls hl => ?_)
                            refine z_aload_n C hl 0 rfl dX5_fewestCalls_180 ?_
                            refine z_aload_n C hl 0 rfl dX5_fewestCalls_181 ?_
                            refine zg_X5_33 C hP dX5_fewestCalls_182 ?_
                            refine zp_X5_36 C hP hS dX5_fewestCalls_185 (fun H locs hP hS => ?_)
                            obtain ⟨t2, et2⟩ : ∃ z : zS, z = zU τ 15 11 (τ 15 10) := ⟨_, rfl⟩
                            rw [← et2] at hP
                            refine z_aload_n C hl 0 rfl dX5_fewestCalls_188 ?_
                            refine z_aload C hl 6 rfl dX5_fewestCalls_189 ?_
                            refine zp_X5_33 C hP hS dX5_fewestCalls_191 (fun H locs hP hS => ?_)
                            obtain ⟨t3, et3⟩ : ∃ z : zS, z = zU t2 15 10 (τ 15 11) := ⟨_, rfl⟩
                            rw [← et3] at hP
                            refine z_iinc C 3 [1, 2, 3, 0, 4, 5, 6] [(0, .ref (a 15)), (1, .ref (a 32)), (2, .int (iI mo)), (3, .int (iI (i + 1))), (4, .int (iI (σ 35 i))), (5, .int (iI 1)), (6, .ref (a (τ 15 11)))] hl rfl (by decide) rfl dX5_fewestCalls_194 (fun ls hl => ?_)
                            refine z_goto C 31 dX5_fewestCalls_197 (by decide) ?_
                            exact ih_31 (i + 1) t3 H locs hP hS ls (by omega) (by exact ⟨fun c h1 h2 h3 => (by rw [et3, et2, zU_cell (by omega), zU_cell (by omega)]; exact fτ.1 c h1 h2 h3), fun j h1 h2 => (by rw [et3, et2, zU_place (by omega), zU_place (by omega)]; exact fτ.2 j h1 h2)⟩) (by rw [et3, et2, zU_same, zU_place (by decide), zU_same]; omega) (by have ed : t3 (t3 15 10) = τ (τ 15 11) := (by rw [et3, et2, zU_same, zU_cell (by omega), zU_cell (by omega)]); rw [ed]; exact kE_end hmo.1 ii.1 e1τ (by rw [show mo + 1 = sr from (by omega)]; exact e2τ)) (by omega) (lv_sub hl [0, 1, 2, 3] rfl)
                          · have hdb2 := hdb (by omega)
                            refine z_aload_n C hl 0 rfl dX5_fewestCalls_100 ?_
                            refine zg_X5_33 C hP dX5_fewestCalls_101 ?_
                            refine z_iload C hl 6 rfl dX5_fewestCalls_104 ?_
                            refine z_iald C hP (ia_so (by omega)) ⟨by omega, by omega⟩ dX5_fewestCalls_106 ?_
                            refine z_ldc C (z := 1000000000) wd_521 (by decide +kernel) dX5_fewestCalls_107 ?_
                            refine z_icmp_ne C 115 dX5_fewestCalls_109 (by decide) ⟨by omega, by omega⟩ ⟨by omega, by omega⟩ (fun c_109 => ?_) (fun c_109 => ?_)
                            · have hmsn := mSore_nn (s := sr) (c := σ 35 i) is.1
                              refine z_iload C hl 6 rfl dX5_fewestCalls_115 ?_
                              refine z_iload C hl 4 rfl dX5_fewestCalls_117 ?_
                              refine z_sSi C hP (As := [.int (iI sr), .int (iI (σ 35 i))]) lk_X5_131 (c_X0_soreBehind hI τ sr (σ 35 i) ⟨by omega, by omega⟩ ⟨by omega, by omega⟩) rfl hl.1 rfl (Nat.le_of_ble_eq_true rfl) ⟨Nat.le_of_ble_eq_true rfl, Nat.le_of_ble_eq_true rfl⟩ ⟨Nat.zero_le _, Nat.zero_le _⟩ dX5_fewestCalls_119 ?_
                              refine z_istore C [1, 2, 3, 4, 5, 6, 7, 0] [(0, .ref (a 15)), (1, .ref (a 32)), (2, .int (iI mo)), (3, .int (iI i)), (4, .int (iI (σ 35 i))), (5, .int (iI 1)), (6, .int (iI sr)), (7, .int (iI (mSore sr (σ 35 i))))] hl (by decide) rfl dX5_fewestCalls_122 (fun ls hl => ?_)
                              refine z_iload C hl 7 rfl dX5_fewestCalls_124 ?_
                              refine z_iload_n C hl 2 rfl dX5_fewestCalls_126 ?_
                              refine z_icmp_gt C 143 dX5_fewestCalls_127 (by decide) ⟨by omega, by omega⟩ ⟨by omega, by omega⟩ (fun c_127 => ?_) (fun c_127 => ?_)
                              · refine z_iload C hl 5 rfl dX5_fewestCalls_143 ?_
                                refine z_ifF_eq C 168 dX5_fewestCalls_145 (by decide) ⟨by decide, by decide⟩ (by decide) ?_
                                refine z_aload_n C hl 0 rfl dX5_fewestCalls_148 ?_
                                refine z_iload C hl 6 rfl dX5_fewestCalls_149 ?_
                                refine z_aload_n C hl 0 rfl dX5_fewestCalls_151 ?_
                                refine zg_X5_33 C hP dX5_fewestCalls_152 ?_
                                refine z_iload C hl 6 rfl dX5_fewestCalls_155 ?_
                                refine z_iald C hP (ia_so (by omega)) ⟨by omega, by omega⟩ dX5_fewestCalls_157 ?_
                                refine z_ldc C (z := 16777216) wd_702 (by decide +kernel) dX5_fewestCalls_158 ?_
                                refine z_iadd C dX5_fewestCalls_160 ?_
                                refine z_iconst C dX5_fewestCalls_161 ?_
                                refine z_iload_n C hl 3 rfl dX5_fewestCalls_162 ?_
                                refine z_ishl C (2 ^ i.toNat) (z_shl1 ⟨by omega, by omega⟩) dX5_fewestCalls_163 ?_
                                refine z_iadd C dX5_fewestCalls_164 ?_
                                refine z_vQv hS C hP (As := [.int (iI sr), .int (iI (((τ (τ 15 10) sr) + 16777216) + (2 ^ i.toNat)))]) lk_X5_134 (c_X5_keepFewer hI τ sr (((τ (τ 15 10) sr) + 16777216) + (2 ^ i.toNat)) kτ ⟨by omega, by omega⟩ (wτ sr (by omega) (by omega)) ⟨by omega, by omega⟩) ob_15 rfl rfl rfl hl.1 rfl (Nat.le_of_ble_eq_true rfl) ⟨Nat.le_of_ble_eq_true rfl, Nat.le_of_ble_eq_true rfl⟩ ⟨Nat.zero_le _, Nat.zero_le _⟩ dX5_fewestCalls_165 (fun t5 H locs hp165 hP hS => ?_)
                                have ft5 : (∀ c : Int, c ≠ 15 → c ≠ 23 → c ≠ 24 → t5 c = σ c) ∧ ∀ j : Int, j ≠ 10 → j ≠ 11 → t5 15 j = σ 15 j := ⟨fun c h1 h2 h3 => (by rw [hp165, zU_cell (by omega)]; exact fτ.1 c h1 h2 h3), fun j h1 h2 => (by rw [hp165, zU_cell (by omega)]; exact fτ.2 j h1 h2)⟩
                                have kt5 : (t5 15 10 = 23 ∧ t5 15 11 = 24) ∨ (t5 15 10 = 24 ∧ t5 15 11 = 23) := by rw [hp165, zU_cell (by omega)]; exact kτ
                                have qt5 : t5 15 = τ 15 := by rw [hp165, zU_cell (by omega)]
                                have ut5 : t5 (t5 15 11) = kUp (τ (τ 15 11)) sr (τ (τ 15 10) sr + 16777216 + 2 ^ i.toNat) := by rw [qt5, hp165, zU_fn]; rfl
                                have vt5 : t5 (t5 15 10) = τ (τ 15 10) := by rw [qt5, hp165, zU_cell (by omega)]
                                try have hst : kE1 (σ 35) mo i (t5 (t5 15 11)) ∧ kE2 (σ 35) mo i (sr + 1) (t5 (t5 15 11)) := by first | exact kE_step dτ e1τ e2τ hmo.1 (by omega) (by omega) (by omega) (Or.inl ⟨by omega, by rw [ut5, if_neg (by omega)]⟩) | exact kE_step dτ e1τ e2τ hmo.1 (by omega) (by omega) (by omega) (Or.inr ⟨by omega, by rw [if_neg (by omega)]⟩) | exact kE_step dτ e1τ e2τ hmo.1 (by omega) (by omega) (by omega) (Or.inr ⟨by omega, by rw [ut5, if_pos (by omega)]⟩) | exact kE_step dτ e1τ e2τ hmo.1 (by omega) (by omega) (by omega) (Or.inl ⟨by omega, by rw [ut5, vτ, uτ, if_pos (by omega)]⟩)
                                refine z_iinc C 6 [1, 2, 3, 4, 5, 6, 0, 7] [(0, .ref (a 15)), (1, .ref (a 32)), (2, .int (iI mo)), (3, .int (iI i)), (4, .int (iI (σ 35 i))), (5, .int (iI 1)), (6, .int (iI (sr + 1))), (7, .int (iI (mSore sr (σ 35 i))))] hl rfl (by decide) rfl dX5_fewestCalls_168 (fun ls hl => ?_)
                                refine z_goto C 94 dX5_fewestCalls_171 (by decide) ?_
                                exact ih_94 (sr + 1) t5 H locs hP hS ls (by omega) (by first | exact fτ | exact ft5) (by first | exact kτ | exact kt5) (by first | exact dτ | (rw [vt5]; exact dτ) | (rw [vt5, vτ]; exact dτ)) (by first | exact e1τ | exact hst.1) (by first | exact kE_far dτ e2τ (by omega) (by omega) | exact hst.2) (by omega) (lv_sub hl [0, 1, 2, 3, 4, 5, 6] rfl)
                              · refine z_aload_n C hl 0 rfl dX5_fewestCalls_130 ?_
                                refine z_iload C hl 7 rfl dX5_fewestCalls_131 ?_
                                refine z_aload_n C hl 0 rfl dX5_fewestCalls_133 ?_
                                refine zg_X5_33 C hP dX5_fewestCalls_134 ?_
                                refine z_iload C hl 6 rfl dX5_fewestCalls_137 ?_
                                refine z_iald C hP (ia_so (by omega)) ⟨by omega, by omega⟩ dX5_fewestCalls_139 ?_
                                refine z_vQv hS C hP (As := [.int (iI (mSore sr (σ 35 i))), .int (iI (τ (τ 15 10) sr))]) lk_X5_134 (c_X5_keepFewer hI τ (mSore sr (σ 35 i)) (τ (τ 15 10) sr) kτ ⟨by omega, by omega⟩ (wτ _ (mSore_nn (by omega)).1 (by omega)) ⟨by omega, by omega⟩) ob_15 rfl rfl rfl hl.1 rfl (Nat.le_of_ble_eq_true rfl) ⟨Nat.le_of_ble_eq_true rfl, Nat.le_of_ble_eq_true rfl⟩ ⟨Nat.zero_le _, Nat.zero_le _⟩ dX5_fewestCalls_140 (fun t7 H locs hp140 hP hS => ?_)
                                have ft7 : (∀ c : Int, c ≠ 15 → c ≠ 23 → c ≠ 24 → t7 c = σ c) ∧ ∀ j : Int, j ≠ 10 → j ≠ 11 → t7 15 j = σ 15 j := ⟨fun c h1 h2 h3 => (by rw [hp140, zU_cell (by omega)]; exact fτ.1 c h1 h2 h3), fun j h1 h2 => (by rw [hp140, zU_cell (by omega)]; exact fτ.2 j h1 h2)⟩
                                have kt7 : (t7 15 10 = 23 ∧ t7 15 11 = 24) ∨ (t7 15 10 = 24 ∧ t7 15 11 = 23) := by rw [hp140, zU_cell (by omega)]; exact kτ
                                have qt7 : t7 15 = τ 15 := by rw [hp140, zU_cell (by omega)]
                                have ut7 : t7 (t7 15 11) = kUp (τ (τ 15 11)) (mSore sr (σ 35 i)) (τ (τ 15 10) sr) := by rw [qt7, hp140, zU_fn]; rfl
                                have vt7 : t7 (t7 15 10) = τ (τ 15 10) := by rw [qt7, hp140, zU_cell (by omega)]
                                have wt7 : ∀ s : Int, 0 ≤ s → s ≤ mo → 0 ≤ t7 (t7 15 11) s ∧ t7 (t7 15 11) s ≤ 1000000000 := fun s a b => by rw [ut7]; exact kUp_b (wτ s a b) (by omega)
                                have hdt7 : 0 ≤ t7 (t7 15 10) sr ∧ t7 (t7 15 10) sr ≤ 1000000000 := by rw [vt7]; exact hdb2
                                refine z_iload C hl 5 rfl dX5_fewestCalls_143 ?_
                                refine z_ifF_eq C 168 dX5_fewestCalls_145 (by decide) ⟨by decide, by decide⟩ (by decide) ?_
                                refine z_aload_n C hl 0 rfl dX5_fewestCalls_148 ?_
                                refine z_iload C hl 6 rfl dX5_fewestCalls_149 ?_
                                refine z_aload_n C hl 0 rfl dX5_fewestCalls_151 ?_
                                refine zg_X5_33 C hP dX5_fewestCalls_152 ?_
                                refine z_iload C hl 6 rfl dX5_fewestCalls_155 ?_
                                refine z_iald C hP (ia_so (by omega)) ⟨by omega, by omega⟩ dX5_fewestCalls_157 ?_
                                refine z_ldc C (z := 16777216) wd_702 (by decide +kernel) dX5_fewestCalls_158 ?_
                                refine z_iadd C dX5_fewestCalls_160 ?_
                                refine z_iconst C dX5_fewestCalls_161 ?_
                                refine z_iload_n C hl 3 rfl dX5_fewestCalls_162 ?_
                                refine z_ishl C (2 ^ i.toNat) (z_shl1 ⟨by omega, by omega⟩) dX5_fewestCalls_163 ?_
                                refine z_iadd C dX5_fewestCalls_164 ?_
                                refine z_vQv hS C hP (As := [.int (iI sr), .int (iI (((t7 (t7 15 10) sr) + 16777216) + (2 ^ i.toNat)))]) lk_X5_134 (c_X5_keepFewer hI t7 sr (((t7 (t7 15 10) sr) + 16777216) + (2 ^ i.toNat)) kt7 ⟨by omega, by omega⟩ (wt7 sr (by omega) (by omega)) ⟨by omega, by omega⟩) ob_15 rfl rfl rfl hl.1 rfl (Nat.le_of_ble_eq_true rfl) ⟨Nat.le_of_ble_eq_true rfl, Nat.le_of_ble_eq_true rfl⟩ ⟨Nat.zero_le _, Nat.zero_le _⟩ dX5_fewestCalls_165 (fun t9 H locs hp165 hP hS => ?_)
                                have ft9 : (∀ c : Int, c ≠ 15 → c ≠ 23 → c ≠ 24 → t9 c = σ c) ∧ ∀ j : Int, j ≠ 10 → j ≠ 11 → t9 15 j = σ 15 j := ⟨fun c h1 h2 h3 => (by rw [hp165, zU_cell (by omega)]; exact ft7.1 c h1 h2 h3), fun j h1 h2 => (by rw [hp165, zU_cell (by omega)]; exact ft7.2 j h1 h2)⟩
                                have kt9 : (t9 15 10 = 23 ∧ t9 15 11 = 24) ∨ (t9 15 10 = 24 ∧ t9 15 11 = 23) := by rw [hp165, zU_cell (by omega)]; exact kt7
                                have qt9 : t9 15 = t7 15 := by rw [hp165, zU_cell (by omega)]
                                have ut9 : t9 (t9 15 11) = kUp (t7 (t7 15 11)) sr (t7 (t7 15 10) sr + 16777216 + 2 ^ i.toNat) := by rw [qt9, hp165, zU_fn]; rfl
                                have vt9 : t9 (t9 15 10) = t7 (t7 15 10) := by rw [qt9, hp165, zU_cell (by omega)]
                                try have hst : kE1 (σ 35) mo i (t9 (t9 15 11)) ∧ kE2 (σ 35) mo i (sr + 1) (t9 (t9 15 11)) := by first | exact kE_step dτ e1τ e2τ hmo.1 (by omega) (by omega) (by omega) (Or.inl ⟨by omega, by rw [ut9, if_neg (by omega)]⟩) | exact kE_step dτ e1τ e2τ hmo.1 (by omega) (by omega) (by omega) (Or.inr ⟨by omega, by rw [if_neg (by omega)]⟩) | exact kE_step dτ e1τ e2τ hmo.1 (by omega) (by omega) (by omega) (Or.inr ⟨by omega, by rw [ut9, if_pos (by omega)]⟩) | exact kE_step dτ e1τ e2τ hmo.1 (by omega) (by omega) (by omega) (Or.inl ⟨by omega, by rw [ut9, vt7, ut7, if_pos (by omega)]⟩)
                                refine z_iinc C 6 [1, 2, 3, 4, 5, 6, 0, 7] [(0, .ref (a 15)), (1, .ref (a 32)), (2, .int (iI mo)), (3, .int (iI i)), (4, .int (iI (σ 35 i))), (5, .int (iI 1)), (6, .int (iI (sr + 1))), (7, .int (iI (mSore sr (σ 35 i))))] hl rfl (by decide) rfl dX5_fewestCalls_168 (fun ls hl => ?_)
                                refine z_goto C 94 dX5_fewestCalls_171 (by decide) ?_
                                exact ih_94 (sr + 1) t9 H locs hP hS ls (by omega) (by first | exact fτ | exact ft9) (by first | exact kτ | exact kt9) (by first | exact dτ | (rw [vt9]; exact dτ) | (rw [vt9, vt7]; exact dτ)) (by first | exact e1τ | exact hst.1) (by first | exact kE_far dτ e2τ (by omega) (by omega) | exact hst.2) (by omega) (lv_sub hl [0, 1, 2, 3, 4, 5, 6] rfl)
                            · refine z_goto C 168 dX5_fewestCalls_112 (by decide) ?_
                              try have hst : kE1 (σ 35) mo i (τ (τ 15 11)) ∧ kE2 (σ 35) mo i (sr + 1) (τ (τ 15 11)) := by first | exact kE_step dτ e1τ e2τ hmo.1 (by omega) (by omega) (by omega) (Or.inl ⟨by omega, by rw [uτ, if_neg (by omega)]⟩) | exact kE_step dτ e1τ e2τ hmo.1 (by omega) (by omega) (by omega) (Or.inr ⟨by omega, by rw [if_neg (by omega)]⟩) | exact kE_step dτ e1τ e2τ hmo.1 (by omega) (by omega) (by omega) (Or.inr ⟨by omega, by rw [uτ, if_pos (by omega)]⟩) | exact kE_step dτ e1τ e2τ hmo.1 (by omega) (by omega) (by omega) (Or.inl ⟨by omega, by rw [uτ, vt7, ut7, if_pos (by omega)]⟩)
                              refine z_iinc C 6 [1, 2, 3, 4, 5, 6, 0] [(0, .ref (a 15)), (1, .ref (a 32)), (2, .int (iI mo)), (3, .int (iI i)), (4, .int (iI (σ 35 i))), (5, .int (iI 1)), (6, .int (iI (sr + 1)))] hl rfl (by decide) rfl dX5_fewestCalls_168 (fun ls hl => ?_)
                              refine z_goto C 94 dX5_fewestCalls_171 (by decide) ?_
                              exact ih_94 (sr + 1) τ H locs hP hS ls (by omega) (by first | exact fτ | exact fτ) (by first | exact kτ | exact kτ) (by first | exact dτ | (rw [vτ]; exact dτ) | (rw [vτ, vt7]; exact dτ)) (by first | exact e1τ | exact hst.1) (by first | exact kE_far dτ e2τ (by omega) (by omega) | exact hst.2) (by omega) (lv_sub hl [0, 1, 2, 3, 4, 5, 6] rfl)
                      exact L_94 _ 0 τ _ _ hP hS ls (by omega) (by exact fτ) (by exact kτ) (by exact dτ) (by intro s h1 h2; rw [zτ s h1 (by omega)]; exact ⟨by decide, Or.inl rfl⟩) (by intro C a b c; have := soS_nn (σ 35) C i.toNat; omega) (Nat.lt_succ_self _) (lv_sub hl [0, 1, 2, 3, 4, 5, 6] rfl)
                    · refine z_aload_n C hl 0 rfl dX5_fewestCalls_76 ?_
                      refine zg_X5_36 C hP dX5_fewestCalls_77 ?_
                      refine z_iload C hl 6 rfl dX5_fewestCalls_80 ?_
                      refine z_ldc C (z := 1000000000) wd_521 (by decide +kernel) dX5_fewestCalls_82 ?_
                      refine z_iast C hP hS (ia_so (by omega)) ⟨by omega, by omega⟩ dX5_fewestCalls_84 (fun H locs hP hS => ?_)
                      obtain ⟨t10, et10⟩ : ∃ z : zS, z = zU τ (τ 15 11) s1 1000000000 := ⟨_, rfl⟩
                      rw [← et10] at hP
                      refine z_iinc C 6 [1, 2, 3, 4, 5, 6, 0] [(0, .ref (a 15)), (1, .ref (a 32)), (2, .int (iI mo)), (3, .int (iI i)), (4, .int (iI (σ 35 i))), (5, .int (iI 1)), (6, .int (iI (s1 + 1)))] hl rfl (by decide) rfl dX5_fewestCalls_85 (fun ls hl => ?_)
                      refine z_goto C 70 dX5_fewestCalls_88 (by decide) ?_
                      exact ih_70 (s1 + 1) t10 H locs hP hS ls (by omega) (by exact ⟨fun c h1 h2 h3 => (by rw [et10, zU_cell (by omega)]; exact fτ.1 c h1 h2 h3), fun j h1 h2 => (by rw [et10, zU_cell (by omega)]; exact fτ.2 j h1 h2)⟩) (by rw [et10, zU_cell (by omega)]; exact kτ) (by have e10 : t10 (t10 15 10) = τ (τ 15 10) := (by rw [et10, zU_cell (by omega : (15 : Int) ≠ τ 15 11), zU_cell (by omega)]); rw [e10]; exact dτ) (by intro j h1 h2; have e11 : t10 15 11 = τ 15 11 := (by rw [et10, zU_cell (by omega)]); rw [e11]; exact if hj : j = s1 then (by rw [hj, et10, zU_same]) else (by rw [et10, zU_place hj]; exact zτ j h1 (by omega))) (by omega) (lv_sub hl [0, 1, 2, 3, 4, 5, 6] rfl)
                exact L_70 _ 0 τ _ _ hP hS ls (by omega) (by exact fτ) (by exact kτ) (by exact dτ) (by intro j h1 h2; omega) (Nat.lt_succ_self _) (lv_sub hl [0, 1, 2, 3, 4, 5, 6] rfl)
              · refine z_iload C hl 4 rfl dX5_fewestCalls_53 ?_
                refine z_bipush C (by decide +kernel) dX5_fewestCalls_55 ?_
                refine z_icmp_ne C 64 dX5_fewestCalls_57 (by decide) ⟨by omega, by omega⟩ ⟨by omega, by omega⟩ (fun c_57 => ?_) (fun c_57 => ?_)
                · refine z_iconst C dX5_fewestCalls_64 ?_
                  refine z_istore C [1, 2, 3, 4, 5, 0] [(0, .ref (a 15)), (1, .ref (a 32)), (2, .int (iI mo)), (3, .int (iI i)), (4, .int (iI (σ 35 i))), (5, .int (iI 0))] hl (by decide) rfl dX5_fewestCalls_65 (fun ls hl => ?_)
                  refine z_iconst C dX5_fewestCalls_67 ?_
                  refine z_istore C [1, 2, 3, 4, 5, 6, 0] [(0, .ref (a 15)), (1, .ref (a 32)), (2, .int (iI mo)), (3, .int (iI i)), (4, .int (iI (σ 35 i))), (5, .int (iI 0)), (6, .int (iI 0))] hl (by decide) rfl dX5_fewestCalls_68 (fun ls hl => ?_)
                  have L_70 : ∀ (n : Nat) (s1 : Int) (τ : zS) (H : Heap) (locs : List Loc) (hP : GP D Y a τ H) (hS : va_S (inA a) s.heap H locs) (ls : Array Slot), (0 ≤ s1 ∧ s1 ≤ mo + 1) → ((∀ c : Int, c ≠ 15 → c ≠ 23 → c ≠ 24 → τ c = σ c) ∧ ∀ j : Int, j ≠ 10 → j ≠ 11 → τ 15 j = σ 15 j) → ((τ 15 10 = 23 ∧ τ 15 11 = 24) ∨ (τ 15 10 = 24 ∧ τ 15 11 = 23)) → (kDc (σ 35) mo i (τ (τ 15 10))) → (∀ j : Int, 0 ≤ j → j < s1 → τ (τ 15 11) j = 1000000000) → ((mo + 1 - s1).toNat) < n → lv_has ls 8 [(0, .ref (a 15)), (1, .ref (a 32)), (2, .int (iI mo)), (3, .int (iI i)), (4, .int (iI (σ 35 i))), (5, .int (iI 0)), (6, .int (iI s1))] → W p l e (zR 2) s m ([.ref (a 15), .ref (a 32), .int (iI mo)] : List Value).toArray below meth c H locs 0 0 (MQ below (zQi D Y a (fun r τ => (∃ C : Int → Int, kAd (σ 35) C ∧ kVa (σ 35) C mo (σ 32 12) ∧ r = kCo C (σ 32 12).toNat ∧ ∀ C' : Int → Int, kAd (σ 35) C' → kVa (σ 35) C' mo (σ 32 12) → r ≤ kCo C' (σ 32 12).toNat) ∧ ((∀ c : Int, c ≠ 15 → c ≠ 23 → c ≠ 24 → τ c = σ c) ∧ ∀ j : Int, j ≠ 10 → j ≠ 11 → τ 15 j = σ 15 j) ∧ ((τ 15 10 = 23 ∧ τ 15 11 = 24) ∨ (τ 15 10 = 24 ∧ τ 15 11 = 23)))) ([.ref (a 15), .ref (a 32), .int (iI mo)] : List Value).toArray s 0 0 (inA a)) (F0 m 70 ls []) := by
                    intro n
                    induction n with
                    | zero =>
                      intros; omega
                    | succ n ih_70 =>
                      intro s1 τ H locs hP hS ls is fτ kτ dτ zτ hm hl
                      refine z_iload C hl 6 rfl dX5_fewestCalls_70 ?_
                      refine z_iload_n C hl 2 rfl dX5_fewestCalls_72 ?_
                      refine z_icmp_gt C 91 dX5_fewestCalls_73 (by decide) ⟨by omega, by omega⟩ ⟨by omega, by omega⟩ (fun c_73 => ?_) (fun c_73 => ?_)
                      · refine z_iconst C dX5_fewestCalls_91 ?_
                        refine z_istore C [1, 2, 3, 4, 5, 6, 0] [(0, .ref (a 15)), (1, .ref (a 32)), (2, .int (iI mo)), (3, .int (iI i)), (4, .int (iI (σ 35 i))), (5, .int (iI 0)), (6, .int (iI 0))] hl (by decide) rfl dX5_fewestCalls_92 (fun ls hl => ?_)
                        have L_94 : ∀ (n : Nat) (sr : Int) (τ : zS) (H : Heap) (locs : List Loc) (hP : GP D Y a τ H) (hS : va_S (inA a) s.heap H locs) (ls : Array Slot), (0 ≤ sr ∧ sr ≤ mo + 1) → ((∀ c : Int, c ≠ 15 → c ≠ 23 → c ≠ 24 → τ c = σ c) ∧ ∀ j : Int, j ≠ 10 → j ≠ 11 → τ 15 j = σ 15 j) → ((τ 15 10 = 23 ∧ τ 15 11 = 24) ∨ (τ 15 10 = 24 ∧ τ 15 11 = 23)) → (kDc (σ 35) mo i (τ (τ 15 10))) → (kE1 (σ 35) mo i (τ (τ 15 11))) → (kE2 (σ 35) mo i sr (τ (τ 15 11))) → ((mo + 1 - sr).toNat) < n → lv_has ls 8 [(0, .ref (a 15)), (1, .ref (a 32)), (2, .int (iI mo)), (3, .int (iI i)), (4, .int (iI (σ 35 i))), (5, .int (iI 0)), (6, .int (iI sr))] → W p l e (zR 2) s m ([.ref (a 15), .ref (a 32), .int (iI mo)] : List Value).toArray below meth c H locs 0 0 (MQ below (zQi D Y a (fun r τ => (∃ C : Int → Int, kAd (σ 35) C ∧ kVa (σ 35) C mo (σ 32 12) ∧ r = kCo C (σ 32 12).toNat ∧ ∀ C' : Int → Int, kAd (σ 35) C' → kVa (σ 35) C' mo (σ 32 12) → r ≤ kCo C' (σ 32 12).toNat) ∧ ((∀ c : Int, c ≠ 15 → c ≠ 23 → c ≠ 24 → τ c = σ c) ∧ ∀ j : Int, j ≠ 10 → j ≠ 11 → τ 15 j = σ 15 j) ∧ ((τ 15 10 = 23 ∧ τ 15 11 = 24) ∨ (τ 15 10 = 24 ∧ τ 15 11 = 23)))) ([.ref (a 15), .ref (a 32), .int (iI mo)] : List Value).toArray s 0 0 (inA a)) (F0 m 94 ls []) := by
                          intro n
                          induction n with
                          | zero =>
                            intros; omega
                          | succ n ih_94 =>
                            intro sr τ H locs hP hS ls is fτ kτ dτ e1τ e2τ hm hl
                            have hdb : sr ≤ mo → 0 ≤ τ (τ 15 10) sr ∧ τ (τ 15 10) sr ≤ 1000000000 := fun h => (dτ.1 sr is.1 h).1
                            have htl := two24 (i := i) (by omega)
                            have wτ : ∀ s : Int, 0 ≤ s → s ≤ mo → 0 ≤ τ (τ 15 11) s ∧ τ (τ 15 11) s ≤ 1000000000 := fun s a b => (e1τ s a b).1
                            refine z_iload C hl 6 rfl dX5_fewestCalls_94 ?_
                            refine z_iload_n C hl 2 rfl dX5_fewestCalls_96 ?_
                            refine z_icmp_gt C 174 dX5_fewestCalls_97 (by decide) ⟨by omega, by omega⟩ ⟨by omega, by omega⟩ (fun c_97 => ?_) (fun c_97 => ?_)
                            · refine z_aload_n C hl 0 rfl dX5_fewestCalls_174 ?_
                              refine zg_X5_36 C hP dX5_fewestCalls_175 ?_
                              refine z_astore C [1, 2, 3, 4, 5, 6, 0] [(0, .ref (a 15)), (1, .ref (a 32)), (2, .int (iI mo)), (3, .int (iI i)), (4, .int (iI (σ 35 i))), (5, .int (iI 0)), (6, .ref (a (τ 15 11)))] hl (by decide) rfl dX5_fewestCalls_178 (fun ls hl => ?_)
                              refine z_aload_n C hl 0 rfl dX5_fewestCalls_180 ?_
                              refine z_aload_n C hl 0 rfl dX5_fewestCalls_181 ?_
                              refine zg_X5_33 C hP dX5_fewestCalls_182 ?_
                              refine zp_X5_36 C hP hS dX5_fewestCalls_185 (fun H locs hP hS => ?_)
                              obtain ⟨t11, et11⟩ : ∃ z : zS, z = zU τ 15 11 (τ 15 10) := ⟨_, rfl⟩
                              rw [← et11] at hP
                              refine z_aload_n C hl 0 rfl dX5_fewestCalls_188 ?_
                              refine z_aload C hl 6 rfl dX5_fewestCalls_189 ?_
                              refine zp_X5_33 C hP hS dX5_fewestCalls_191 (fun H locs hP hS => ?_)
                              obtain ⟨t12, et12⟩ : ∃ z : zS, z = zU t11 15 10 (τ 15 11) := ⟨_, rfl⟩
                              rw [← et12] at hP
                              refine z_iinc C 3 [1, 2, 3, 0, 4, 5, 6] [(0, .ref (a 15)), (1, .ref (a 32)), (2, .int (iI mo)), (3, .int (iI (i + 1))), (4, .int (iI (σ 35 i))), (5, .int (iI 0)), (6, .ref (a (τ 15 11)))] hl rfl (by decide) rfl dX5_fewestCalls_194 (fun ls hl => ?_)
                              refine z_goto C 31 dX5_fewestCalls_197 (by decide) ?_
                              exact ih_31 (i + 1) t12 H locs hP hS ls (by omega) (by exact ⟨fun c h1 h2 h3 => (by rw [et12, et11, zU_cell (by omega), zU_cell (by omega)]; exact fτ.1 c h1 h2 h3), fun j h1 h2 => (by rw [et12, et11, zU_place (by omega), zU_place (by omega)]; exact fτ.2 j h1 h2)⟩) (by rw [et12, et11, zU_same, zU_place (by decide), zU_same]; omega) (by have ed : t12 (t12 15 10) = τ (τ 15 11) := (by rw [et12, et11, zU_same, zU_cell (by omega), zU_cell (by omega)]); rw [ed]; exact kE_end hmo.1 ii.1 e1τ (by rw [show mo + 1 = sr from (by omega)]; exact e2τ)) (by omega) (lv_sub hl [0, 1, 2, 3] rfl)
                            · have hdb2 := hdb (by omega)
                              refine z_aload_n C hl 0 rfl dX5_fewestCalls_100 ?_
                              refine zg_X5_33 C hP dX5_fewestCalls_101 ?_
                              refine z_iload C hl 6 rfl dX5_fewestCalls_104 ?_
                              refine z_iald C hP (ia_so (by omega)) ⟨by omega, by omega⟩ dX5_fewestCalls_106 ?_
                              refine z_ldc C (z := 1000000000) wd_521 (by decide +kernel) dX5_fewestCalls_107 ?_
                              refine z_icmp_ne C 115 dX5_fewestCalls_109 (by decide) ⟨by omega, by omega⟩ ⟨by omega, by omega⟩ (fun c_109 => ?_) (fun c_109 => ?_)
                              · have hmsn := mSore_nn (s := sr) (c := σ 35 i) is.1
                                refine z_iload C hl 6 rfl dX5_fewestCalls_115 ?_
                                refine z_iload C hl 4 rfl dX5_fewestCalls_117 ?_
                                refine z_sSi C hP (As := [.int (iI sr), .int (iI (σ 35 i))]) lk_X5_131 (c_X0_soreBehind hI τ sr (σ 35 i) ⟨by omega, by omega⟩ ⟨by omega, by omega⟩) rfl hl.1 rfl (Nat.le_of_ble_eq_true rfl) ⟨Nat.le_of_ble_eq_true rfl, Nat.le_of_ble_eq_true rfl⟩ ⟨Nat.zero_le _, Nat.zero_le _⟩ dX5_fewestCalls_119 ?_
                                refine z_istore C [1, 2, 3, 4, 5, 6, 7, 0] [(0, .ref (a 15)), (1, .ref (a 32)), (2, .int (iI mo)), (3, .int (iI i)), (4, .int (iI (σ 35 i))), (5, .int (iI 0)), (6, .int (iI sr)), (7, .int (iI (mSore sr (σ 35 i))))] hl (by decide) rfl dX5_fewestCalls_122 (fun ls hl => ?_)
                                refine z_iload C hl 7 rfl dX5_fewestCalls_124 ?_
                                refine z_iload_n C hl 2 rfl dX5_fewestCalls_126 ?_
                                refine z_icmp_gt C 143 dX5_fewestCalls_127 (by decide) ⟨by omega, by omega⟩ ⟨by omega, by omega⟩ (fun c_127 => ?_) (fun c_127 => ?_)
                                · refine z_iload C hl 5 rfl dX5_fewestCalls_143 ?_
                                  refine z_ifT_eq C 168 dX5_fewestCalls_145 (by decide) ⟨by decide, by decide⟩ (by decide) ?_
                                  try have hst : kE1 (σ 35) mo i (τ (τ 15 11)) ∧ kE2 (σ 35) mo i (sr + 1) (τ (τ 15 11)) := by first | exact kE_step dτ e1τ e2τ hmo.1 (by omega) (by omega) (by omega) (Or.inl ⟨by omega, by rw [uτ, if_neg (by omega)]⟩) | exact kE_step dτ e1τ e2τ hmo.1 (by omega) (by omega) (by omega) (Or.inr ⟨by omega, by rw [if_neg (by omega)]⟩) | exact kE_step dτ e1τ e2τ hmo.1 (by omega) (by omega) (by omega) (Or.inr ⟨by omega, by rw [uτ, if_pos (by omega)]⟩) | exact kE_step dτ e1τ e2τ hmo.1 (by omega) (by omega) (by omega) (Or.inl ⟨by omega, by rw [uτ, vt7, ut7, if_pos (by omega)]⟩)
                                  refine z_iinc C 6 [1, 2, 3, 4, 5, 6, 0, 7] [(0, .ref (a 15)), (1, .ref (a 32)), (2, .int (iI mo)), (3, .int (iI i)), (4, .int (iI (σ 35 i))), (5, .int (iI 0)), (6, .int (iI (sr + 1))), (7, .int (iI (mSore sr (σ 35 i))))] hl rfl (by decide) rfl dX5_fewestCalls_168 (fun ls hl => ?_)
                                  refine z_goto C 94 dX5_fewestCalls_171 (by decide) ?_
                                  exact ih_94 (sr + 1) τ H locs hP hS ls (by omega) (by first | exact fτ | exact fτ) (by first | exact kτ | exact kτ) (by first | exact dτ | (rw [vτ]; exact dτ) | (rw [vτ, vt7]; exact dτ)) (by first | exact e1τ | exact hst.1) (by first | exact kE_far dτ e2τ (by omega) (by omega) | exact hst.2) (by omega) (lv_sub hl [0, 1, 2, 3, 4, 5, 6] rfl)
                                · refine z_aload_n C hl 0 rfl dX5_fewestCalls_130 ?_
                                  refine z_iload C hl 7 rfl dX5_fewestCalls_131 ?_
                                  refine z_aload_n C hl 0 rfl dX5_fewestCalls_133 ?_
                                  refine zg_X5_33 C hP dX5_fewestCalls_134 ?_
                                  refine z_iload C hl 6 rfl dX5_fewestCalls_137 ?_
                                  refine z_iald C hP (ia_so (by omega)) ⟨by omega, by omega⟩ dX5_fewestCalls_139 ?_
                                  refine z_vQv hS C hP (As := [.int (iI (mSore sr (σ 35 i))), .int (iI (τ (τ 15 10) sr))]) lk_X5_134 (c_X5_keepFewer hI τ (mSore sr (σ 35 i)) (τ (τ 15 10) sr) kτ ⟨by omega, by omega⟩ (wτ _ (mSore_nn (by omega)).1 (by omega)) ⟨by omega, by omega⟩) ob_15 rfl rfl rfl hl.1 rfl (Nat.le_of_ble_eq_true rfl) ⟨Nat.le_of_ble_eq_true rfl, Nat.le_of_ble_eq_true rfl⟩ ⟨Nat.zero_le _, Nat.zero_le _⟩ dX5_fewestCalls_140 (fun t14 H locs hp140 hP hS => ?_)
                                  have ft14 : (∀ c : Int, c ≠ 15 → c ≠ 23 → c ≠ 24 → t14 c = σ c) ∧ ∀ j : Int, j ≠ 10 → j ≠ 11 → t14 15 j = σ 15 j := ⟨fun c h1 h2 h3 => (by rw [hp140, zU_cell (by omega)]; exact fτ.1 c h1 h2 h3), fun j h1 h2 => (by rw [hp140, zU_cell (by omega)]; exact fτ.2 j h1 h2)⟩
                                  have kt14 : (t14 15 10 = 23 ∧ t14 15 11 = 24) ∨ (t14 15 10 = 24 ∧ t14 15 11 = 23) := by rw [hp140, zU_cell (by omega)]; exact kτ
                                  have qt14 : t14 15 = τ 15 := by rw [hp140, zU_cell (by omega)]
                                  have ut14 : t14 (t14 15 11) = kUp (τ (τ 15 11)) (mSore sr (σ 35 i)) (τ (τ 15 10) sr) := by rw [qt14, hp140, zU_fn]; rfl
                                  have vt14 : t14 (t14 15 10) = τ (τ 15 10) := by rw [qt14, hp140, zU_cell (by omega)]
                                  have wt14 : ∀ s : Int, 0 ≤ s → s ≤ mo → 0 ≤ t14 (t14 15 11) s ∧ t14 (t14 15 11) s ≤ 1000000000 := fun s a b => by rw [ut14]; exact kUp_b (wτ s a b) (by omega)
                                  have hdt14 : 0 ≤ t14 (t14 15 10) sr ∧ t14 (t14 15 10) sr ≤ 1000000000 := by rw [vt14]; exact hdb2
                                  refine z_iload C hl 5 rfl dX5_fewestCalls_143 ?_
                                  refine z_ifT_eq C 168 dX5_fewestCalls_145 (by decide) ⟨by decide, by decide⟩ (by decide) ?_
                                  try have hst : kE1 (σ 35) mo i (t14 (t14 15 11)) ∧ kE2 (σ 35) mo i (sr + 1) (t14 (t14 15 11)) := by first | exact kE_step dτ e1τ e2τ hmo.1 (by omega) (by omega) (by omega) (Or.inl ⟨by omega, by rw [ut14, if_neg (by omega)]⟩) | exact kE_step dτ e1τ e2τ hmo.1 (by omega) (by omega) (by omega) (Or.inr ⟨by omega, by rw [if_neg (by omega)]⟩) | exact kE_step dτ e1τ e2τ hmo.1 (by omega) (by omega) (by omega) (Or.inr ⟨by omega, by rw [ut14, if_pos (by omega)]⟩) | exact kE_step dτ e1τ e2τ hmo.1 (by omega) (by omega) (by omega) (Or.inl ⟨by omega, by rw [ut14, vτ, uτ, if_pos (by omega)]⟩)
                                  refine z_iinc C 6 [1, 2, 3, 4, 5, 6, 0, 7] [(0, .ref (a 15)), (1, .ref (a 32)), (2, .int (iI mo)), (3, .int (iI i)), (4, .int (iI (σ 35 i))), (5, .int (iI 0)), (6, .int (iI (sr + 1))), (7, .int (iI (mSore sr (σ 35 i))))] hl rfl (by decide) rfl dX5_fewestCalls_168 (fun ls hl => ?_)
                                  refine z_goto C 94 dX5_fewestCalls_171 (by decide) ?_
                                  exact ih_94 (sr + 1) t14 H locs hP hS ls (by omega) (by first | exact fτ | exact ft14) (by first | exact kτ | exact kt14) (by first | exact dτ | (rw [vt14]; exact dτ) | (rw [vt14, vτ]; exact dτ)) (by first | exact e1τ | exact hst.1) (by first | exact kE_far dτ e2τ (by omega) (by omega) | exact hst.2) (by omega) (lv_sub hl [0, 1, 2, 3, 4, 5, 6] rfl)
                              · refine z_goto C 168 dX5_fewestCalls_112 (by decide) ?_
                                try have hst : kE1 (σ 35) mo i (τ (τ 15 11)) ∧ kE2 (σ 35) mo i (sr + 1) (τ (τ 15 11)) := by first | exact kE_step dτ e1τ e2τ hmo.1 (by omega) (by omega) (by omega) (Or.inl ⟨by omega, by rw [uτ, if_neg (by omega)]⟩) | exact kE_step dτ e1τ e2τ hmo.1 (by omega) (by omega) (by omega) (Or.inr ⟨by omega, by rw [if_neg (by omega)]⟩) | exact kE_step dτ e1τ e2τ hmo.1 (by omega) (by omega) (by omega) (Or.inr ⟨by omega, by rw [uτ, if_pos (by omega)]⟩) | exact kE_step dτ e1τ e2τ hmo.1 (by omega) (by omega) (by omega) (Or.inl ⟨by omega, by rw [uτ, vτ, uτ, if_pos (by omega)]⟩)
                                refine z_iinc C 6 [1, 2, 3, 4, 5, 6, 0] [(0, .ref (a 15)), (1, .ref (a 32)), (2, .int (iI mo)), (3, .int (iI i)), (4, .int (iI (σ 35 i))), (5, .int (iI 0)), (6, .int (iI (sr + 1)))] hl rfl (by decide) rfl dX5_fewestCalls_168 (fun ls hl => ?_)
                                refine z_goto C 94 dX5_fewestCalls_171 (by decide) ?_
                                exact ih_94 (sr + 1) τ H locs hP hS ls (by omega) (by first | exact fτ | exact fτ) (by first | exact kτ | exact kτ) (by first | exact dτ | (rw [vτ]; exact dτ) | (rw [vτ, vτ]; exact dτ)) (by first | exact e1τ | exact hst.1) (by first | exact kE_far dτ e2τ (by omega) (by omega) | exact hst.2) (by omega) (lv_sub hl [0, 1, 2, 3, 4, 5, 6] rfl)
                        exact L_94 _ 0 τ _ _ hP hS ls (by omega) (by exact fτ) (by exact kτ) (by exact dτ) (by intro s h1 h2; rw [zτ s h1 (by omega)]; exact ⟨by decide, Or.inl rfl⟩) (by intro C a b c; have := soS_nn (σ 35) C i.toNat; omega) (Nat.lt_succ_self _) (lv_sub hl [0, 1, 2, 3, 4, 5, 6] rfl)
                      · refine z_aload_n C hl 0 rfl dX5_fewestCalls_76 ?_
                        refine zg_X5_36 C hP dX5_fewestCalls_77 ?_
                        refine z_iload C hl 6 rfl dX5_fewestCalls_80 ?_
                        refine z_ldc C (z := 1000000000) wd_521 (by decide +kernel) dX5_fewestCalls_82 ?_
                        refine z_iast C hP hS (ia_so (by omega)) ⟨by omega, by omega⟩ dX5_fewestCalls_84 (fun H locs hP hS => ?_)
                        obtain ⟨t15, et15⟩ : ∃ z : zS, z = zU τ (τ 15 11) s1 1000000000 := ⟨_, rfl⟩
                        rw [← et15] at hP
                        refine z_iinc C 6 [1, 2, 3, 4, 5, 6, 0] [(0, .ref (a 15)), (1, .ref (a 32)), (2, .int (iI mo)), (3, .int (iI i)), (4, .int (iI (σ 35 i))), (5, .int (iI 0)), (6, .int (iI (s1 + 1)))] hl rfl (by decide) rfl dX5_fewestCalls_85 (fun ls hl => ?_)
                        refine z_goto C 70 dX5_fewestCalls_88 (by decide) ?_
                        exact ih_70 (s1 + 1) t15 H locs hP hS ls (by omega) (by exact ⟨fun c h1 h2 h3 => (by rw [et15, zU_cell (by omega)]; exact fτ.1 c h1 h2 h3), fun j h1 h2 => (by rw [et15, zU_cell (by omega)]; exact fτ.2 j h1 h2)⟩) (by rw [et15, zU_cell (by omega)]; exact kτ) (by have e10 : t15 (t15 15 10) = τ (τ 15 10) := (by rw [et15, zU_cell (by omega : (15 : Int) ≠ τ 15 11), zU_cell (by omega)]); rw [e10]; exact dτ) (by intro j h1 h2; have e11 : t15 15 11 = τ 15 11 := (by rw [et15, zU_cell (by omega)]); rw [e11]; exact if hj : j = s1 then (by rw [hj, et15, zU_same]) else (by rw [et15, zU_place hj]; exact zτ j h1 (by omega))) (by omega) (lv_sub hl [0, 1, 2, 3, 4, 5, 6] rfl)
                  exact L_70 _ 0 τ _ _ hP hS ls (by omega) (by exact fτ) (by exact kτ) (by exact dτ) (by intro j h1 h2; omega) (Nat.lt_succ_self _) (lv_sub hl [0, 1, 2, 3, 4, 5, 6] rfl)
                · refine z_iconst C dX5_fewestCalls_60 ?_
                  refine z_goto C 65 dX5_fewestCalls_61 (by decide) ?_
                  refine z_istore C [1, 2, 3, 4, 5, 0] [(0, .ref (a 15)), (1, .ref (a 32)), (2, .int (iI mo)), (3, .int (iI i)), (4, .int (iI (σ 35 i))), (5, .int (iI 1))] hl (by decide) rfl dX5_fewestCalls_65 (fun ls hl => ?_)
                  refine z_iconst C dX5_fewestCalls_67 ?_
                  refine z_istore C [1, 2, 3, 4, 5, 6, 0] [(0, .ref (a 15)), (1, .ref (a 32)), (2, .int (iI mo)), (3, .int (iI i)), (4, .int (iI (σ 35 i))), (5, .int (iI 1)), (6, .int (iI 0))] hl (by decide) rfl dX5_fewestCalls_68 (fun ls hl => ?_)
                  have L_70 : ∀ (n : Nat) (s1 : Int) (τ : zS) (H : Heap) (locs : List Loc) (hP : GP D Y a τ H) (hS : va_S (inA a) s.heap H locs) (ls : Array Slot), (0 ≤ s1 ∧ s1 ≤ mo + 1) → ((∀ c : Int, c ≠ 15 → c ≠ 23 → c ≠ 24 → τ c = σ c) ∧ ∀ j : Int, j ≠ 10 → j ≠ 11 → τ 15 j = σ 15 j) → ((τ 15 10 = 23 ∧ τ 15 11 = 24) ∨ (τ 15 10 = 24 ∧ τ 15 11 = 23)) → (kDc (σ 35) mo i (τ (τ 15 10))) → (∀ j : Int, 0 ≤ j → j < s1 → τ (τ 15 11) j = 1000000000) → ((mo + 1 - s1).toNat) < n → lv_has ls 8 [(0, .ref (a 15)), (1, .ref (a 32)), (2, .int (iI mo)), (3, .int (iI i)), (4, .int (iI (σ 35 i))), (5, .int (iI 1)), (6, .int (iI s1))] → W p l e (zR 2) s m ([.ref (a 15), .ref (a 32), .int (iI mo)] : List Value).toArray below meth c H locs 0 0 (MQ below (zQi D Y a (fun r τ => (∃ C : Int → Int, kAd (σ 35) C ∧ kVa (σ 35) C mo (σ 32 12) ∧ r = kCo C (σ 32 12).toNat ∧ ∀ C' : Int → Int, kAd (σ 35) C' → kVa (σ 35) C' mo (σ 32 12) → r ≤ kCo C' (σ 32 12).toNat) ∧ ((∀ c : Int, c ≠ 15 → c ≠ 23 → c ≠ 24 → τ c = σ c) ∧ ∀ j : Int, j ≠ 10 → j ≠ 11 → τ 15 j = σ 15 j) ∧ ((τ 15 10 = 23 ∧ τ 15 11 = 24) ∨ (τ 15 10 = 24 ∧ τ 15 11 = 23)))) ([.ref (a 15), .ref (a 32), .int (iI mo)] : List Value).toArray s 0 0 (inA a)) (F0 m 70 ls []) := by
                    intro n
                    induction n with
                    | zero =>
                      intros; omega
                    | succ n ih_70 =>
                      intro s1 τ H locs hP hS ls is fτ kτ dτ zτ hm hl
                      refine z_iload C hl 6 rfl dX5_fewestCalls_70 ?_
                      refine z_iload_n C hl 2 rfl dX5_fewestCalls_72 ?_
                      refine z_icmp_gt C 91 dX5_fewestCalls_73 (by decide) ⟨by omega, by omega⟩ ⟨by omega, by omega⟩ (fun c_73 => ?_) (fun c_73 => ?_)
                      · refine z_iconst C dX5_fewestCalls_91 ?_
                        refine z_istore C [1, 2, 3, 4, 5, 6, 0] [(0, .ref (a 15)), (1, .ref (a 32)), (2, .int (iI mo)), (3, .int (iI i)), (4, .int (iI (σ 35 i))), (5, .int (iI 1)), (6, .int (iI 0))] hl (by decide) rfl dX5_fewestCalls_92 (fun ls hl => ?_)
                        have L_94 : ∀ (n : Nat) (sr : Int) (τ : zS) (H : Heap) (locs : List Loc) (hP : GP D Y a τ H) (hS : va_S (inA a) s.heap H locs) (ls : Array Slot), (0 ≤ sr ∧ sr ≤ mo + 1) → ((∀ c : Int, c ≠ 15 → c ≠ 23 → c ≠ 24 → τ c = σ c) ∧ ∀ j : Int, j ≠ 10 → j ≠ 11 → τ 15 j = σ 15 j) → ((τ 15 10 = 23 ∧ τ 15 11 = 24) ∨ (τ 15 10 = 24 ∧ τ 15 11 = 23)) → (kDc (σ 35) mo i (τ (τ 15 10))) → (kE1 (σ 35) mo i (τ (τ 15 11))) → (kE2 (σ 35) mo i sr (τ (τ 15 11))) → ((mo + 1 - sr).toNat) < n → lv_has ls 8 [(0, .ref (a 15)), (1, .ref (a 32)), (2, .int (iI mo)), (3, .int (iI i)), (4, .int (iI (σ 35 i))), (5, .int (iI 1)), (6, .int (iI sr))] → W p l e (zR 2) s m ([.ref (a 15), .ref (a 32), .int (iI mo)] : List Value).toArray below meth c H locs 0 0 (MQ below (zQi D Y a (fun r τ => (∃ C : Int → Int, kAd (σ 35) C ∧ kVa (σ 35) C mo (σ 32 12) ∧ r = kCo C (σ 32 12).toNat ∧ ∀ C' : Int → Int, kAd (σ 35) C' → kVa (σ 35) C' mo (σ 32 12) → r ≤ kCo C' (σ 32 12).toNat) ∧ ((∀ c : Int, c ≠ 15 → c ≠ 23 → c ≠ 24 → τ c = σ c) ∧ ∀ j : Int, j ≠ 10 → j ≠ 11 → τ 15 j = σ 15 j) ∧ ((τ 15 10 = 23 ∧ τ 15 11 = 24) ∨ (τ 15 10 = 24 ∧ τ 15 11 = 23)))) ([.ref (a 15), .ref (a 32), .int (iI mo)] : List Value).toArray s 0 0 (inA a)) (F0 m 94 ls []) := by
                          intro n
                          induction n with
                          | zero =>
                            intros; omega
                          | succ n ih_94 =>
                            intro sr τ H locs hP hS ls is fτ kτ dτ e1τ e2τ hm hl
                            have hdb : sr ≤ mo → 0 ≤ τ (τ 15 10) sr ∧ τ (τ 15 10) sr ≤ 1000000000 := fun h => (dτ.1 sr is.1 h).1
                            have htl := two24 (i := i) (by omega)
                            have wτ : ∀ s : Int, 0 ≤ s → s ≤ mo → 0 ≤ τ (τ 15 11) s ∧ τ (τ 15 11) s ≤ 1000000000 := fun s a b => (e1τ s a b).1
                            refine z_iload C hl 6 rfl dX5_fewestCalls_94 ?_
                            refine z_iload_n C hl 2 rfl dX5_fewestCalls_96 ?_
                            refine z_icmp_gt C 174 dX5_fewestCalls_97 (by decide) ⟨by omega, by omega⟩ ⟨by omega, by omega⟩ (fun c_97 => ?_) (fun c_97 => ?_)
                            · refine z_aload_n C hl 0 rfl dX5_fewestCalls_174 ?_
                              refine zg_X5_36 C hP dX5_fewestCalls_175 ?_
                              refine z_astore C [1, 2, 3, 4, 5, 6, 0] [(0, .ref (a 15)), (1, .ref (a 32)), (2, .int (iI mo)), (3, .int (iI i)), (4, .int (iI (σ 35 i))), (5, .int (iI 1)), (6, .ref (a (τ 15 11)))] hl (by decide) rfl dX5_fewestCalls_178 (fun ls hl => ?_)
                              refine z_aload_n C hl 0 rfl dX5_fewestCalls_180 ?_
                              refine z_aload_n C hl 0 rfl dX5_fewestCalls_181 ?_
                              refine zg_X5_33 C hP dX5_fewestCalls_182 ?_
                              refine zp_X5_36 C hP hS dX5_fewestCalls_185 (fun H locs hP hS => ?_)
                              obtain ⟨t16, et16⟩ : ∃ z : zS, z = zU τ 15 11 (τ 15 10) := ⟨_, rfl⟩
                              rw [← et16] at hP
                              refine z_aload_n C hl 0 rfl dX5_fewestCalls_188 ?_
                              refine z_aload C hl 6 rfl dX5_fewestCalls_189 ?_
                              refine zp_X5_33 C hP hS dX5_fewestCalls_191 (fun H locs hP hS => ?_)
                              obtain ⟨t17, et17⟩ : ∃ z : zS, z = zU t16 15 10 (τ 15 11) := ⟨_, rfl⟩
                              rw [← et17] at hP
                              refine z_iinc C 3 [1, 2, 3, 0, 4, 5, 6] [(0, .ref (a 15)), (1, .ref (a 32)), (2, .int (iI mo)), (3, .int (iI (i + 1))), (4, .int (iI (σ 35 i))), (5, .int (iI 1)), (6, .ref (a (τ 15 11)))] hl rfl (by decide) rfl dX5_fewestCalls_194 (fun ls hl => ?_)
                              refine z_goto C 31 dX5_fewestCalls_197 (by decide) ?_
                              exact ih_31 (i + 1) t17 H locs hP hS ls (by omega) (by exact ⟨fun c h1 h2 h3 => (by rw [et17, et16, zU_cell (by omega), zU_cell (by omega)]; exact fτ.1 c h1 h2 h3), fun j h1 h2 => (by rw [et17, et16, zU_place (by omega), zU_place (by omega)]; exact fτ.2 j h1 h2)⟩) (by rw [et17, et16, zU_same, zU_place (by decide), zU_same]; omega) (by have ed : t17 (t17 15 10) = τ (τ 15 11) := (by rw [et17, et16, zU_same, zU_cell (by omega), zU_cell (by omega)]); rw [ed]; exact kE_end hmo.1 ii.1 e1τ (by rw [show mo + 1 = sr from (by omega)]; exact e2τ)) (by omega) (lv_sub hl [0, 1, 2, 3] rfl)
                            · have hdb2 := hdb (by omega)
                              refine z_aload_n C hl 0 rfl dX5_fewestCalls_100 ?_
                              refine zg_X5_33 C hP dX5_fewestCalls_101 ?_
                              refine z_iload C hl 6 rfl dX5_fewestCalls_104 ?_
                              refine z_iald C hP (ia_so (by omega)) ⟨by omega, by omega⟩ dX5_fewestCalls_106 ?_
                              refine z_ldc C (z := 1000000000) wd_521 (by decide +kernel) dX5_fewestCalls_107 ?_
                              refine z_icmp_ne C 115 dX5_fewestCalls_109 (by decide) ⟨by omega, by omega⟩ ⟨by omega, by omega⟩ (fun c_109 => ?_) (fun c_109 => ?_)
                              · have hmsn := mSore_nn (s := sr) (c := σ 35 i) is.1
                                refine z_iload C hl 6 rfl dX5_fewestCalls_115 ?_
                                refine z_iload C hl 4 rfl dX5_fewestCalls_117 ?_
                                refine z_sSi C hP (As := [.int (iI sr), .int (iI (σ 35 i))]) lk_X5_131 (c_X0_soreBehind hI τ sr (σ 35 i) ⟨by omega, by omega⟩ ⟨by omega, by omega⟩) rfl hl.1 rfl (Nat.le_of_ble_eq_true rfl) ⟨Nat.le_of_ble_eq_true rfl, Nat.le_of_ble_eq_true rfl⟩ ⟨Nat.zero_le _, Nat.zero_le _⟩ dX5_fewestCalls_119 ?_
                                refine z_istore C [1, 2, 3, 4, 5, 6, 7, 0] [(0, .ref (a 15)), (1, .ref (a 32)), (2, .int (iI mo)), (3, .int (iI i)), (4, .int (iI (σ 35 i))), (5, .int (iI 1)), (6, .int (iI sr)), (7, .int (iI (mSore sr (σ 35 i))))] hl (by decide) rfl dX5_fewestCalls_122 (fun ls hl => ?_)
                                refine z_iload C hl 7 rfl dX5_fewestCalls_124 ?_
                                refine z_iload_n C hl 2 rfl dX5_fewestCalls_126 ?_
                                refine z_icmp_gt C 143 dX5_fewestCalls_127 (by decide) ⟨by omega, by omega⟩ ⟨by omega, by omega⟩ (fun c_127 => ?_) (fun c_127 => ?_)
                                · refine z_iload C hl 5 rfl dX5_fewestCalls_143 ?_
                                  refine z_ifF_eq C 168 dX5_fewestCalls_145 (by decide) ⟨by decide, by decide⟩ (by decide) ?_
                                  refine z_aload_n C hl 0 rfl dX5_fewestCalls_148 ?_
                                  refine z_iload C hl 6 rfl dX5_fewestCalls_149 ?_
                                  refine z_aload_n C hl 0 rfl dX5_fewestCalls_151 ?_
                                  refine zg_X5_33 C hP dX5_fewestCalls_152 ?_
                                  refine z_iload C hl 6 rfl dX5_fewestCalls_155 ?_
                                  refine z_iald C hP (ia_so (by omega)) ⟨by omega, by omega⟩ dX5_fewestCalls_157 ?_
                                  refine z_ldc C (z := 16777216) wd_702 (by decide +kernel) dX5_fewestCalls_158 ?_
                                  refine z_iadd C dX5_fewestCalls_160 ?_
                                  refine z_iconst C dX5_fewestCalls_161 ?_
                                  refine z_iload_n C hl 3 rfl dX5_fewestCalls_162 ?_
                                  refine z_ishl C (2 ^ i.toNat) (z_shl1 ⟨by omega, by omega⟩) dX5_fewestCalls_163 ?_
                                  refine z_iadd C dX5_fewestCalls_164 ?_
                                  refine z_vQv hS C hP (As := [.int (iI sr), .int (iI (((τ (τ 15 10) sr) + 16777216) + (2 ^ i.toNat)))]) lk_X5_134 (c_X5_keepFewer hI τ sr (((τ (τ 15 10) sr) + 16777216) + (2 ^ i.toNat)) kτ ⟨by omega, by omega⟩ (wτ sr (by omega) (by omega)) ⟨by omega, by omega⟩) ob_15 rfl rfl rfl hl.1 rfl (Nat.le_of_ble_eq_true rfl) ⟨Nat.le_of_ble_eq_true rfl, Nat.le_of_ble_eq_true rfl⟩ ⟨Nat.zero_le _, Nat.zero_le _⟩ dX5_fewestCalls_165 (fun t19 H locs hp165 hP hS => ?_)
                                  have ft19 : (∀ c : Int, c ≠ 15 → c ≠ 23 → c ≠ 24 → t19 c = σ c) ∧ ∀ j : Int, j ≠ 10 → j ≠ 11 → t19 15 j = σ 15 j := ⟨fun c h1 h2 h3 => (by rw [hp165, zU_cell (by omega)]; exact fτ.1 c h1 h2 h3), fun j h1 h2 => (by rw [hp165, zU_cell (by omega)]; exact fτ.2 j h1 h2)⟩
                                  have kt19 : (t19 15 10 = 23 ∧ t19 15 11 = 24) ∨ (t19 15 10 = 24 ∧ t19 15 11 = 23) := by rw [hp165, zU_cell (by omega)]; exact kτ
                                  have qt19 : t19 15 = τ 15 := by rw [hp165, zU_cell (by omega)]
                                  have ut19 : t19 (t19 15 11) = kUp (τ (τ 15 11)) sr (τ (τ 15 10) sr + 16777216 + 2 ^ i.toNat) := by rw [qt19, hp165, zU_fn]; rfl
                                  have vt19 : t19 (t19 15 10) = τ (τ 15 10) := by rw [qt19, hp165, zU_cell (by omega)]
                                  try have hst : kE1 (σ 35) mo i (t19 (t19 15 11)) ∧ kE2 (σ 35) mo i (sr + 1) (t19 (t19 15 11)) := by first | exact kE_step dτ e1τ e2τ hmo.1 (by omega) (by omega) (by omega) (Or.inl ⟨by omega, by rw [ut19, if_neg (by omega)]⟩) | exact kE_step dτ e1τ e2τ hmo.1 (by omega) (by omega) (by omega) (Or.inr ⟨by omega, by rw [if_neg (by omega)]⟩) | exact kE_step dτ e1τ e2τ hmo.1 (by omega) (by omega) (by omega) (Or.inr ⟨by omega, by rw [ut19, if_pos (by omega)]⟩) | exact kE_step dτ e1τ e2τ hmo.1 (by omega) (by omega) (by omega) (Or.inl ⟨by omega, by rw [ut19, vτ, uτ, if_pos (by omega)]⟩)
                                  refine z_iinc C 6 [1, 2, 3, 4, 5, 6, 0, 7] [(0, .ref (a 15)), (1, .ref (a 32)), (2, .int (iI mo)), (3, .int (iI i)), (4, .int (iI (σ 35 i))), (5, .int (iI 1)), (6, .int (iI (sr + 1))), (7, .int (iI (mSore sr (σ 35 i))))] hl rfl (by decide) rfl dX5_fewestCalls_168 (fun ls hl => ?_)
                                  refine z_goto C 94 dX5_fewestCalls_171 (by decide) ?_
                                  exact ih_94 (sr + 1) t19 H locs hP hS ls (by omega) (by first | exact fτ | exact ft19) (by first | exact kτ | exact kt19) (by first | exact dτ | (rw [vt19]; exact dτ) | (rw [vt19, vτ]; exact dτ)) (by first | exact e1τ | exact hst.1) (by first | exact kE_far dτ e2τ (by omega) (by omega) | exact hst.2) (by omega) (lv_sub hl [0, 1, 2, 3, 4, 5, 6] rfl)
                                · refine z_aload_n C hl 0 rfl dX5_fewestCalls_130 ?_
                                  refine z_iload C hl 7 rfl dX5_fewestCalls_131 ?_
                                  refine z_aload_n C hl 0 rfl dX5_fewestCalls_133 ?_
                                  refine zg_X5_33 C hP dX5_fewestCalls_134 ?_
                                  refine z_iload C hl 6 rfl dX5_fewestCalls_137 ?_
                                  refine z_iald C hP (ia_so (by omega)) ⟨by omega, by omega⟩ dX5_fewestCalls_139 ?_
                                  refine z_vQv hS C hP (As := [.int (iI (mSore sr (σ 35 i))), .int (iI (τ (τ 15 10) sr))]) lk_X5_134 (c_X5_keepFewer hI τ (mSore sr (σ 35 i)) (τ (τ 15 10) sr) kτ ⟨by omega, by omega⟩ (wτ _ (mSore_nn (by omega)).1 (by omega)) ⟨by omega, by omega⟩) ob_15 rfl rfl rfl hl.1 rfl (Nat.le_of_ble_eq_true rfl) ⟨Nat.le_of_ble_eq_true rfl, Nat.le_of_ble_eq_true rfl⟩ ⟨Nat.zero_le _, Nat.zero_le _⟩ dX5_fewestCalls_140 (fun t21 H locs hp140 hP hS => ?_)
                                  have ft21 : (∀ c : Int, c ≠ 15 → c ≠ 23 → c ≠ 24 → t21 c = σ c) ∧ ∀ j : Int, j ≠ 10 → j ≠ 11 → t21 15 j = σ 15 j := ⟨fun c h1 h2 h3 => (by rw [hp140, zU_cell (by omega)]; exact fτ.1 c h1 h2 h3), fun j h1 h2 => (by rw [hp140, zU_cell (by omega)]; exact fτ.2 j h1 h2)⟩
                                  have kt21 : (t21 15 10 = 23 ∧ t21 15 11 = 24) ∨ (t21 15 10 = 24 ∧ t21 15 11 = 23) := by rw [hp140, zU_cell (by omega)]; exact kτ
                                  have qt21 : t21 15 = τ 15 := by rw [hp140, zU_cell (by omega)]
                                  have ut21 : t21 (t21 15 11) = kUp (τ (τ 15 11)) (mSore sr (σ 35 i)) (τ (τ 15 10) sr) := by rw [qt21, hp140, zU_fn]; rfl
                                  have vt21 : t21 (t21 15 10) = τ (τ 15 10) := by rw [qt21, hp140, zU_cell (by omega)]
                                  have wt21 : ∀ s : Int, 0 ≤ s → s ≤ mo → 0 ≤ t21 (t21 15 11) s ∧ t21 (t21 15 11) s ≤ 1000000000 := fun s a b => by rw [ut21]; exact kUp_b (wτ s a b) (by omega)
                                  have hdt21 : 0 ≤ t21 (t21 15 10) sr ∧ t21 (t21 15 10) sr ≤ 1000000000 := by rw [vt21]; exact hdb2
                                  refine z_iload C hl 5 rfl dX5_fewestCalls_143 ?_
                                  refine z_ifF_eq C 168 dX5_fewestCalls_145 (by decide) ⟨by decide, by decide⟩ (by decide) ?_
                                  refine z_aload_n C hl 0 rfl dX5_fewestCalls_148 ?_
                                  refine z_iload C hl 6 rfl dX5_fewestCalls_149 ?_
                                  refine z_aload_n C hl 0 rfl dX5_fewestCalls_151 ?_
                                  refine zg_X5_33 C hP dX5_fewestCalls_152 ?_
                                  refine z_iload C hl 6 rfl dX5_fewestCalls_155 ?_
                                  refine z_iald C hP (ia_so (by omega)) ⟨by omega, by omega⟩ dX5_fewestCalls_157 ?_
                                  refine z_ldc C (z := 16777216) wd_702 (by decide +kernel) dX5_fewestCalls_158 ?_
                                  refine z_iadd C dX5_fewestCalls_160 ?_
                                  refine z_iconst C dX5_fewestCalls_161 ?_
                                  refine z_iload_n C hl 3 rfl dX5_fewestCalls_162 ?_
                                  refine z_ishl C (2 ^ i.toNat) (z_shl1 ⟨by omega, by omega⟩) dX5_fewestCalls_163 ?_
                                  refine z_iadd C dX5_fewestCalls_164 ?_
                                  refine z_vQv hS C hP (As := [.int (iI sr), .int (iI (((t21 (t21 15 10) sr) + 16777216) + (2 ^ i.toNat)))]) lk_X5_134 (c_X5_keepFewer hI t21 sr (((t21 (t21 15 10) sr) + 16777216) + (2 ^ i.toNat)) kt21 ⟨by omega, by omega⟩ (wt21 sr (by omega) (by omega)) ⟨by omega, by omega⟩) ob_15 rfl rfl rfl hl.1 rfl (Nat.le_of_ble_eq_true rfl) ⟨Nat.le_of_ble_eq_true rfl, Nat.le_of_ble_eq_true rfl⟩ ⟨Nat.zero_le _, Nat.zero_le _⟩ dX5_fewestCalls_165 (fun t23 H locs hp165 hP hS => ?_)
                                  have ft23 : (∀ c : Int, c ≠ 15 → c ≠ 23 → c ≠ 24 → t23 c = σ c) ∧ ∀ j : Int, j ≠ 10 → j ≠ 11 → t23 15 j = σ 15 j := ⟨fun c h1 h2 h3 => (by rw [hp165, zU_cell (by omega)]; exact ft21.1 c h1 h2 h3), fun j h1 h2 => (by rw [hp165, zU_cell (by omega)]; exact ft21.2 j h1 h2)⟩
                                  have kt23 : (t23 15 10 = 23 ∧ t23 15 11 = 24) ∨ (t23 15 10 = 24 ∧ t23 15 11 = 23) := by rw [hp165, zU_cell (by omega)]; exact kt21
                                  have qt23 : t23 15 = t21 15 := by rw [hp165, zU_cell (by omega)]
                                  have ut23 : t23 (t23 15 11) = kUp (t21 (t21 15 11)) sr (t21 (t21 15 10) sr + 16777216 + 2 ^ i.toNat) := by rw [qt23, hp165, zU_fn]; rfl
                                  have vt23 : t23 (t23 15 10) = t21 (t21 15 10) := by rw [qt23, hp165, zU_cell (by omega)]
                                  try have hst : kE1 (σ 35) mo i (t23 (t23 15 11)) ∧ kE2 (σ 35) mo i (sr + 1) (t23 (t23 15 11)) := by first | exact kE_step dτ e1τ e2τ hmo.1 (by omega) (by omega) (by omega) (Or.inl ⟨by omega, by rw [ut23, if_neg (by omega)]⟩) | exact kE_step dτ e1τ e2τ hmo.1 (by omega) (by omega) (by omega) (Or.inr ⟨by omega, by rw [if_neg (by omega)]⟩) | exact kE_step dτ e1τ e2τ hmo.1 (by omega) (by omega) (by omega) (Or.inr ⟨by omega, by rw [ut23, if_pos (by omega)]⟩) | exact kE_step dτ e1τ e2τ hmo.1 (by omega) (by omega) (by omega) (Or.inl ⟨by omega, by rw [ut23, vt21, ut21, if_pos (by omega)]⟩)
                                  refine z_iinc C 6 [1, 2, 3, 4, 5, 6, 0, 7] [(0, .ref (a 15)), (1, .ref (a 32)), (2, .int (iI mo)), (3, .int (iI i)), (4, .int (iI (σ 35 i))), (5, .int (iI 1)), (6, .int (iI (sr + 1))), (7, .int (iI (mSore sr (σ 35 i))))] hl rfl (by decide) rfl dX5_fewestCalls_168 (fun ls hl => ?_)
                                  refine z_goto C 94 dX5_fewestCalls_171 (by decide) ?_
                                  exact ih_94 (sr + 1) t23 H locs hP hS ls (by omega) (by first | exact fτ | exact ft23) (by first | exact kτ | exact kt23) (by first | exact dτ | (rw [vt23]; exact dτ) | (rw [vt23, vt21]; exact dτ)) (by first | exact e1τ | exact hst.1) (by first | exact kE_far dτ e2τ (by omega) (by omega) | exact hst.2) (by omega) (lv_sub hl [0, 1, 2, 3, 4, 5, 6] rfl)
                              · refine z_goto C 168 dX5_fewestCalls_112 (by decide) ?_
                                try have hst : kE1 (σ 35) mo i (τ (τ 15 11)) ∧ kE2 (σ 35) mo i (sr + 1) (τ (τ 15 11)) := by first | exact kE_step dτ e1τ e2τ hmo.1 (by omega) (by omega) (by omega) (Or.inl ⟨by omega, by rw [uτ, if_neg (by omega)]⟩) | exact kE_step dτ e1τ e2τ hmo.1 (by omega) (by omega) (by omega) (Or.inr ⟨by omega, by rw [if_neg (by omega)]⟩) | exact kE_step dτ e1τ e2τ hmo.1 (by omega) (by omega) (by omega) (Or.inr ⟨by omega, by rw [uτ, if_pos (by omega)]⟩) | exact kE_step dτ e1τ e2τ hmo.1 (by omega) (by omega) (by omega) (Or.inl ⟨by omega, by rw [uτ, vt21, ut21, if_pos (by omega)]⟩)
                                refine z_iinc C 6 [1, 2, 3, 4, 5, 6, 0] [(0, .ref (a 15)), (1, .ref (a 32)), (2, .int (iI mo)), (3, .int (iI i)), (4, .int (iI (σ 35 i))), (5, .int (iI 1)), (6, .int (iI (sr + 1)))] hl rfl (by decide) rfl dX5_fewestCalls_168 (fun ls hl => ?_)
                                refine z_goto C 94 dX5_fewestCalls_171 (by decide) ?_
                                exact ih_94 (sr + 1) τ H locs hP hS ls (by omega) (by first | exact fτ | exact fτ) (by first | exact kτ | exact kτ) (by first | exact dτ | (rw [vτ]; exact dτ) | (rw [vτ, vt21]; exact dτ)) (by first | exact e1τ | exact hst.1) (by first | exact kE_far dτ e2τ (by omega) (by omega) | exact hst.2) (by omega) (lv_sub hl [0, 1, 2, 3, 4, 5, 6] rfl)
                        exact L_94 _ 0 τ _ _ hP hS ls (by omega) (by exact fτ) (by exact kτ) (by exact dτ) (by intro s h1 h2; rw [zτ s h1 (by omega)]; exact ⟨by decide, Or.inl rfl⟩) (by intro C a b c; have := soS_nn (σ 35) C i.toNat; omega) (Nat.lt_succ_self _) (lv_sub hl [0, 1, 2, 3, 4, 5, 6] rfl)
                      · refine z_aload_n C hl 0 rfl dX5_fewestCalls_76 ?_
                        refine zg_X5_36 C hP dX5_fewestCalls_77 ?_
                        refine z_iload C hl 6 rfl dX5_fewestCalls_80 ?_
                        refine z_ldc C (z := 1000000000) wd_521 (by decide +kernel) dX5_fewestCalls_82 ?_
                        refine z_iast C hP hS (ia_so (by omega)) ⟨by omega, by omega⟩ dX5_fewestCalls_84 (fun H locs hP hS => ?_)
                        obtain ⟨t24, et24⟩ : ∃ z : zS, z = zU τ (τ 15 11) s1 1000000000 := ⟨_, rfl⟩
                        rw [← et24] at hP
                        refine z_iinc C 6 [1, 2, 3, 4, 5, 6, 0] [(0, .ref (a 15)), (1, .ref (a 32)), (2, .int (iI mo)), (3, .int (iI i)), (4, .int (iI (σ 35 i))), (5, .int (iI 1)), (6, .int (iI (s1 + 1)))] hl rfl (by decide) rfl dX5_fewestCalls_85 (fun ls hl => ?_)
                        refine z_goto C 70 dX5_fewestCalls_88 (by decide) ?_
                        exact ih_70 (s1 + 1) t24 H locs hP hS ls (by omega) (by exact ⟨fun c h1 h2 h3 => (by rw [et24, zU_cell (by omega)]; exact fτ.1 c h1 h2 h3), fun j h1 h2 => (by rw [et24, zU_cell (by omega)]; exact fτ.2 j h1 h2)⟩) (by rw [et24, zU_cell (by omega)]; exact kτ) (by have e10 : t24 (t24 15 10) = τ (τ 15 10) := (by rw [et24, zU_cell (by omega : (15 : Int) ≠ τ 15 11), zU_cell (by omega)]); rw [e10]; exact dτ) (by intro j h1 h2; have e11 : t24 15 11 = τ 15 11 := (by rw [et24, zU_cell (by omega)]); rw [e11]; exact if hj : j = s1 then (by rw [hj, et24, zU_same]) else (by rw [et24, zU_place hj]; exact zτ j h1 (by omega))) (by omega) (lv_sub hl [0, 1, 2, 3, 4, 5, 6] rfl)
                  exact L_70 _ 0 τ _ _ hP hS ls (by omega) (by exact fτ) (by exact kτ) (by exact dτ) (by intro j h1 h2; omega) (Nat.lt_succ_self _) (lv_sub hl [0, 1, 2, 3, 4, 5, 6] rfl)
        exact L_31 _ 0 τ _ _ hP hS ls (by omega) (by exact fτ) (by exact kτ) (by exact kD_0 (fun s h1 h2 => zτ s h1 (by omega)) hmo.1) (Nat.lt_succ_self _) (lv_sub hl [0, 1, 2, 3] rfl)
      · refine z_aload_n C hl 0 rfl dX5_fewestCalls_7 ?_
        refine zg_X5_33 C hP dX5_fewestCalls_8 ?_
        refine z_iload_n C hl 3 rfl dX5_fewestCalls_11 ?_
        refine z_iload_n C hl 3 rfl dX5_fewestCalls_12 ?_
        refine z_if_ne C 20 dX5_fewestCalls_13 (by decide) ⟨by omega, by omega⟩ (fun c_13 => ?_) (fun c_13 => ?_)
        · refine z_ldc C (z := 1000000000) wd_521 (by decide +kernel) dX5_fewestCalls_20 ?_
          refine z_iast C hP hS (ia_so (by omega)) ⟨by omega, by omega⟩ dX5_fewestCalls_22 (fun H locs hP hS => ?_)
          obtain ⟨t25, et25⟩ : ∃ z : zS, z = zU τ (τ 15 10) s0 1000000000 := ⟨_, rfl⟩
          rw [← et25] at hP
          refine z_iinc C 3 [1, 2, 3, 0] [(0, .ref (a 15)), (1, .ref (a 32)), (2, .int (iI mo)), (3, .int (iI (s0 + 1)))] hl rfl (by decide) rfl dX5_fewestCalls_23 (fun ls hl => ?_)
          refine z_goto C 2 dX5_fewestCalls_26 (by decide) ?_
          exact ih_2 (s0 + 1) t25 H locs hP hS ls (by omega) (by exact ⟨fun c h1 h2 h3 => (by rw [et25, zU_cell (by omega)]; exact fτ.1 c h1 h2 h3), fun j h1 h2 => (by rw [et25, zU_cell (by omega)]; exact fτ.2 j h1 h2)⟩) (by rw [et25, zU_cell (by omega)]; exact kτ) (by intro j h1 h2; have e10 : t25 15 10 = τ 15 10 := (by rw [et25, zU_cell (by omega)]); rw [e10]; exact if hj : j = s0 then (by rw [hj, et25, zU_same]; first | (rw [if_pos (by omega)]; done) | (rw [if_neg (by omega)]; done)) else (by rw [et25, zU_place hj]; exact zτ j h1 (by omega))) (by omega) (lv_sub hl [0, 1, 2, 3] rfl)
        · refine z_iconst C dX5_fewestCalls_16 ?_
          refine z_goto C 22 dX5_fewestCalls_17 (by decide) ?_
          refine z_iast C hP hS (ia_so (by omega)) ⟨by omega, by omega⟩ dX5_fewestCalls_22 (fun H locs hP hS => ?_)
          obtain ⟨t26, et26⟩ : ∃ z : zS, z = zU τ (τ 15 10) s0 0 := ⟨_, rfl⟩
          rw [← et26] at hP
          refine z_iinc C 3 [1, 2, 3, 0] [(0, .ref (a 15)), (1, .ref (a 32)), (2, .int (iI mo)), (3, .int (iI (s0 + 1)))] hl rfl (by decide) rfl dX5_fewestCalls_23 (fun ls hl => ?_)
          refine z_goto C 2 dX5_fewestCalls_26 (by decide) ?_
          exact ih_2 (s0 + 1) t26 H locs hP hS ls (by omega) (by exact ⟨fun c h1 h2 h3 => (by rw [et26, zU_cell (by omega)]; exact fτ.1 c h1 h2 h3), fun j h1 h2 => (by rw [et26, zU_cell (by omega)]; exact fτ.2 j h1 h2)⟩) (by rw [et26, zU_cell (by omega)]; exact kτ) (by intro j h1 h2; have e10 : t26 15 10 = τ 15 10 := (by rw [et26, zU_cell (by omega)]); rw [e10]; exact if hj : j = s0 then (by rw [hj, et26, zU_same]; first | (rw [if_pos (by omega)]; done) | (rw [if_neg (by omega)]; done)) else (by rw [et26, zU_place hj]; exact zτ j h1 (by omega))) (by omega) (lv_sub hl [0, 1, 2, 3] rfl)
  exact L_2 _ 0 σ _ _ hP hS ls (by omega) (by exact ⟨fun c h1 h2 h3 => rfl, fun j h1 h2 => rfl⟩) (by exact hcf) (by intro j h1 h2; omega) (Nat.lt_succ_self _) (lv_sub hl [0, 1, 2, 3] rfl)
