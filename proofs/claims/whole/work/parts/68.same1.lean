theorem iv_th {σ : zS} (h : jInv σ) (rr : Int) : (0 ≤ rr ∧ rr ≤ 3 ∧ σ (40 + rr) 0 = 1) ↔ (0 ≤ rr ∧ rr ≤ 3 ∧ mBit (σ 100 0) rr = 1) := ⟨fun q => ⟨q.1, q.2.1, by rw [iv_bit h q.1 q.2.1]; exact q.2.2⟩, fun q => ⟨q.1, q.2.1, by rw [← iv_bit h q.1 q.2.1]; exact q.2.2⟩⟩
theorem iv_se {σ : zS} (h : jInv σ) : (σ (40 + σ 32 7) 0 = 1 ∧ σ (40 + σ 32 8) 0 = 1) ↔ (mBit (σ 100 0) (σ 100 5) = 1 ∧ mBit (σ 100 0) (σ 100 6) = 1 ∧ σ 100 5 ≠ σ 100 6) := by
  have e2 := h.2.2.1.2.1
  have o := h.1.2.1
  rw [e2.2.1, e2.2.2.1, iv_bit h o.1.1 o.1.2, iv_bit h o.2.1.1 o.2.1.2]
  exact ⟨fun q => ⟨q.1, q.2, o.2.2.1⟩, fun q => ⟨q.1, q.2.1⟩⟩
theorem iv_sc {σ : zS} (h : jInv σ) : σ 100 5 = σ 32 7 ∧ σ 100 6 = σ 32 8 ∧ σ 100 7 = σ 32 9 ∧ σ 100 8 = σ 32 10 ∧ σ 100 9 = σ 32 11 ∧ σ 100 11 = σ 32 12 ∧ σ 100 16 = σ 32 13 := h.2.2.1.2.1.2
theorem iv_fr {σ : zS} (h : jInv σ) : (σ 101 (σ 100 5) = σ (40 + σ 32 7) 1 ∧ σ 102 (σ 100 5) = σ (40 + σ 32 7) 2 ∧ σ 103 (σ 100 5) = σ (40 + σ 32 7) 3 ∧ σ 104 (σ 100 5) = σ (40 + σ 32 7) 4) ∧ (σ 101 (σ 100 6) = σ (40 + σ 32 8) 1 ∧ σ 102 (σ 100 6) = σ (40 + σ 32 8) 2 ∧ σ 103 (σ 100 6) = σ (40 + σ 32 8) 3 ∧ σ 104 (σ 100 6) = σ (40 + σ 32 8) 4) := by
  have e := iv_sc h
  have o := h.1.2.1
  rw [e.1, e.2.1]
  exact ⟨h.2.2.1.1 _ o.1.1 o.1.2, h.2.2.1.1 _ o.2.1.1 o.2.1.2⟩
theorem iv_gr {σ : zS} (h : jInv σ) {i : Int} (h1 : 0 ≤ i) (h2 : i < σ 32 12) : mSort (σ 105 i) = σ 35 i := by
  have o := h.1.2.1.2.2.2.2.2.2.1
  rw [h.2.2.1.2.2.1 i h1 (by omega), h.1.2.2.2.1 i h1 h2]
theorem mTread_like (s l e : Int) : mTread s l e l = e * s := by
  unfold mTread mAbs
  rw [Int.sub_self, if_pos (Int.le_refl 0)]
  omega
theorem iv_SA {σ : zS} (h : jInv σ) {ef eb : Int} (h1 : 0 ≤ ef ∧ ef ≤ 4) (h2 : 0 ≤ eb ∧ eb ≤ 4) : jSA σ (5 * ef + eb) = mSAB σ ef eb := by
  have e := iv_sc h
  have f := iv_fr h
  funext b
  unfold jSA mSAB
  rw [e.2.2.2.2.2.1]
  exact mSum_c (fun i a1 a2 => by
    unfold jSF1 mTF mTB
    rw [iv_gr h a1 (by omega), f.1.1, f.1.2.1, f.2.1, f.2.2.1, show (5 * ef + eb) / 5 = ef by omega, show (5 * ef + eb) % 5 = eb by omega])
theorem mArg_c {s : Int} {f g : Int → Int} : ∀ {n : Nat}, (∀ i : Int, s ≤ i → i ≤ s + n → f i = g i) → mArg s f n = mArg s g n ∧ s ≤ mArg s f n ∧ mArg s f n ≤ s + n
  | 0, _ => ⟨rfl, by show s ≤ s; omega, by show s ≤ s + (0 : Nat); omega⟩
  | n + 1, h => by
    have ih := mArg_c (n := n) (fun i a b => h i a (by omega))
    have e1 := h (s + n + 1) (by omega) (by omega)
    have e2 := h (mArg s f n) ih.2.1 (by omega)
    have d1 : mArg s f (n + 1) = if f (s + n + 1) < f (mArg s f n) then s + n + 1 else mArg s f n := rfl
    have d2 : mArg s g (n + 1) = if g (s + n + 1) < g (mArg s g n) then s + n + 1 else mArg s g n := rfl
    rw [d1, d2, ← ih.1, ← e1, ← e2]
    refine ⟨rfl, ?_, ?_⟩
    · split <;> omega
    · split <;> omega
theorem mMxS_z {f : Int → Int} {n : Nat} (hn : 1 ≤ n) (hf : ∀ i : Int, 0 ≤ i → i < n → 0 ≤ f i) : mMxS (-1) f n = mMxS 0 f n := by
  have key : ∀ m : Nat, m ≤ n → (m = 0 ∨ mMxS (-1) f m = mMxS 0 f m) := by
    intro m
    induction m with
    | zero => intro _; exact Or.inl rfl
    | succ m ih =>
      intro hm
      have h0 := hf m (by omega) (by omega)
      right
      show max (mMxS (-1) f m) (f m) = max (mMxS 0 f m) (f m)
      rcases ih (by omega) with h | h
      · subst h
        show max (-1) (f (0 : Nat)) = max 0 (f (0 : Nat))
        omega
      · rw [h]
  rcases key n (Nat.le_refl n) with h | h
  · omega
  · exact h
theorem mMnS_z {s t : Int} {f : Int → Int} {n : Nat} (hn : 1 ≤ n) (hf : ∀ i : Int, 0 ≤ i → i < n → f i ≤ s ∧ f i ≤ t) : mMnS s f n = mMnS t f n := by
  have key : ∀ m : Nat, m ≤ n → (m = 0 ∨ mMnS s f m = mMnS t f m) := by
    intro m
    induction m with
    | zero => intro _; exact Or.inl rfl
    | succ m ih =>
      intro hm
      have h0 := hf m (by omega) (by omega)
      right
      show min (mMnS s f m) (f m) = min (mMnS t f m) (f m)
      rcases ih (by omega) with h | h
      · subst h
        show min s (f (0 : Nat)) = min t (f (0 : Nat))
        have := h0
        omega
      · rw [h]
  rcases key n (Nat.le_refl n) with h | h
  · omega
  · exact h
theorem iv_Pu {σ : zS} (h : jInv σ) (ef eb p : Int) : jPu σ ef eb p = mPush (σ (40 + σ 32 7) 1) (σ (40 + σ 32 8) 1) ef eb p := by
  have f := iv_fr h
  funext k
  unfold jPu
  rw [f.1.1, f.2.1]
theorem iv_Un {σ : zS} (h : jInv σ) {ef eb p : Int} (h1 : 0 ≤ ef ∧ ef ≤ 4) (h2 : 0 ≤ eb ∧ eb ≤ 4) (hp : 0 ≤ p ∧ p ≤ 11) : jUn σ ef eb p = mUnev σ ef eb p := by
  have hd := pk_hrd h
  have o := h.1.2.1
  have hb : ∀ k : Int, 0 ≤ k → k < 12 → 0 ≤ mPush (σ (40 + σ 32 7) 1) (σ (40 + σ 32 8) 1) ef eb p k ∧ mPush (σ (40 + σ 32 7) 1) (σ (40 + σ 32 8) 1) ef eb p k ≤ 960 := fun k a b => by
    have := mPush_b (k := k) (p := p) (hd _ o.1.1 o.1.2).1 (hd _ o.2.1.1 o.2.1.2).1 h1 h2 hp (by omega)
    exact ⟨this.1, this.2.1⟩
  unfold jUn mUnev
  rw [iv_Pu h, mMxS_z (by decide) (fun k a b => (hb k a (by omega)).1), mMnS_z (s := 1000000) (t := 1000000000) (by decide) (fun k a b => by have := hb k a (by omega); omega)]
theorem iv_Ho {σ : zS} (h : jInv σ) (rr : Int) : (fun s0 => jHold σ rr s0) = fun s0 => mHold σ rr s0 := by
  have e := iv_sc h
  have o := h.1.2.1.2.2.2.2.2.2.2
  funext s0
  apply propext
  unfold jHold mHold
  rw [e.2.2.2.2.2.2]
  refine ⟨fun q i a b => ?_, fun q i a b => ?_⟩
  · have f := h.2.2.1.2.2.2 i a (by omega)
    have := q i a b
    rw [f.1, f.2.1, f.2.2.1, f.2.2.2] at this
    exact this
  · have f := h.2.2.1.2.2.2 i a (by omega)
    rw [f.1, f.2.1, f.2.2.1, f.2.2.2]
    exact q i a b
theorem iv_Yv {σ : zS} (h : jInv σ) (seed : Int) : jYv σ seed = mYv σ seed := by
  funext i
  unfold jYv mYv
  rw [show 6 * (1 + mYx seed (i + 1).toNat % 3) = 5 * (1 + mYx seed (i + 1).toNat % 3) + (1 + mYx seed (i + 1).toNat % 3) by omega, iv_SA h (by omega) (by omega)]
theorem mSec_m {h a b : Int} (hh : 0 ≤ h) (hab : a ≤ b) : mSec h b ≤ mSec h a := by
  unfold mSec
  have h0 : 0 ≤ h / (1 + max 0 b) := Int.ediv_nonneg hh (by omega)
  have h1 : h / (1 + max 0 b) * (1 + max 0 a) ≤ h / (1 + max 0 b) * (1 + max 0 b) := Int.mul_le_mul_of_nonneg_left (by omega) h0
  have h2 : h / (1 + max 0 b) * (1 + max 0 b) ≤ h := Int.ediv_mul_le h (by omega)
  have : h / (1 + max 0 b) ≤ h / (1 + max 0 a) := Int.le_ediv_of_mul_le (by omega) (Int.le_trans h1 h2)
  omega
theorem mSec_max {h a b : Int} (hh : 0 ≤ h) : mSec h (max a b) = min (mSec h a) (mSec h b) := by
  have h1 := mSec_m (a := a) (b := b) hh
  have h2 := mSec_m (a := b) (b := a) hh
  by_cases hc : a ≤ b
  · rw [show max a b = b by omega]
    have := h1 hc
    omega
  · rw [show max a b = a by omega]
    have := h2 (by omega)
    omega
theorem jQk_eq (σ : zS) (f r ch e : Int) : jQk σ f r ch e = mSec (mHard (mSort ch)) (mMax7 (fun b => mTread (σ 101 f) (σ 102 f) (e / 5) b + mTread (σ 101 r) (σ 102 r) (e % 5) b)) := by
  have hh := mHard_b (mSort ch)
  have hb : ∀ t : Int, 1 ≤ mSec (mHard (mSort ch)) t ∧ mSec (mHard (mSort ch)) t ≤ 241 := fun t => mSec_b (by omega)
  have h0 : ∀ t : Int, mSec (mHard (mSort ch)) t ≤ mSec (mHard (mSort ch)) 0 := fun t => by
    have e : mSec (mHard (mSort ch)) t = mSec (mHard (mSort ch)) (max 0 t) := by
      unfold mSec
      rw [show max 0 (max 0 t) = max 0 t by omega]
    rw [e]
    exact mSec_m (by omega) (by omega)
  unfold mMax7
  rw [mSec_max (by omega), mSec_max (by omega), mSec_max (by omega), mSec_max (by omega), mSec_max (by omega), mSec_max (by omega), mSec_max (by omega)]
  show min (min (min (min (min (min (min 1000000 (jQf σ f r ch e 0)) (jQf σ f r ch e 1)) (jQf σ f r ch e 2)) (jQf σ f r ch e 3)) (jQf σ f r ch e 4)) (jQf σ f r ch e 5)) (jQf σ f r ch e 6) = _
  have e4 : jQf σ f r ch e 0 = mSec (mHard (mSort ch)) (mTread (σ 101 f) (σ 102 f) (e / 5) 4 + mTread (σ 101 r) (σ 102 r) (e % 5) 4) := rfl
  have a1 := h0 (mTread (σ 101 f) (σ 102 f) (e / 5) 4 + mTread (σ 101 r) (σ 102 r) (e % 5) 4)
  have a2 := hb (mTread (σ 101 f) (σ 102 f) (e / 5) 4 + mTread (σ 101 r) (σ 102 r) (e % 5) 4)
  rw [show min (1000000 : Int) (jQf σ f r ch e 0) = min (mSec (mHard (mSort ch)) 0) (mSec (mHard (mSort ch)) (mTread (σ 101 f) (σ 102 f) (e / 5) 4 + mTread (σ 101 r) (σ 102 r) (e % 5) 4)) by rw [e4]; omega]
  rfl
theorem iv_Al {σ : zS} (h : jInv σ) {rr : Int} (h1 : 0 ≤ rr) (h2 : rr ≤ 3) (ef ch : Int) : jAl σ rr ef ch = mSec (mHard (mSort ch) / 2) (ef * σ (40 + rr) 1) := by
  have e := h.2.2.1.1 rr h1 h2
  unfold jAl
  rw [mTread_like, e.1]
theorem iq_tread {σ : zS} (h : jInv σ) (rr ef b : Int)  : (if 0 ≤ rr ∧ rr ≤ 3 ∧ σ (40 + rr) 0 = 1 then (if (0 ≤ ef ∧ ef ≤ 4) ∧ 4 ≤ b ∧ b ≤ 10 then mTread (σ (40 + rr) 1) (σ (40 + rr) 2) ef b else -2) else -1) = (if 0 ≤ rr ∧ rr ≤ 3 ∧ mBit (σ 100 0) rr = 1 then (if (0 ≤ ef ∧ ef ≤ 4) ∧ 4 ≤ b ∧ b ≤ 10 then mTread (σ 101 rr) (σ 102 rr) ef b else -2) else -1) := by
  by_cases hc : 0 ≤ rr ∧ rr ≤ 3 ∧ σ (40 + rr) 0 = 1
  · have hc2 := (iv_th h rr).1 hc
    have e := h.2.2.1.1 rr hc.1 hc.2.1
    rw [if_pos hc, if_pos hc2]
    rw [e.1, e.2.1]
  · rw [if_neg hc, if_neg (fun q => hc ((iv_th h rr).2 q))]
theorem iq_single {σ : zS} (h : jInv σ) (rr ef : Int)  : (if 0 ≤ rr ∧ rr ≤ 3 ∧ σ (40 + rr) 0 = 1 then (if 0 ≤ ef ∧ ef ≤ 4 then mSum (fun i => mSec (mHard (σ 35 i) / 2) (ef * σ (40 + rr) 1)) (σ 32 12).toNat else -2) else -1) = (if 0 ≤ rr ∧ rr ≤ 3 ∧ mBit (σ 100 0) rr = 1 then (if 0 ≤ ef ∧ ef ≤ 4 then mSum (fun i => jAl σ rr ef (σ 105 i)) (σ 100 11).toNat else -2) else -1) := by
  by_cases hc : 0 ≤ rr ∧ rr ≤ 3 ∧ σ (40 + rr) 0 = 1
  · have hc2 := (iv_th h rr).1 hc
    have e := h.2.2.1.1 rr hc.1 hc.2.1
    rw [if_pos hc, if_pos hc2]
    by_cases hf : 0 ≤ ef ∧ ef ≤ 4
    · rw [if_pos hf, if_pos hf, (iv_sc h).2.2.2.2.2.1]
      exact mSum_c (fun i a b => by rw [iv_Al h hc.1 hc.2.1, iv_gr h a (by omega)])
    · rw [if_neg hf, if_neg hf]
  · rw [if_neg hc, if_neg (fun q => hc ((iv_th h rr).2 q))]
theorem iq_uneven {σ : zS} (h : jInv σ) (ef eb p0 : Int)  : (if σ (40 + σ 32 7) 0 = 1 ∧ σ (40 + σ 32 8) 0 = 1 then (if (0 ≤ ef ∧ ef ≤ 4) ∧ (0 ≤ eb ∧ eb ≤ 4) ∧ 0 ≤ p0 ∧ p0 ≤ 11 then mUnev σ ef eb p0 else -2) else -3) = (if mBit (σ 100 0) (σ 100 5) = 1 ∧ mBit (σ 100 0) (σ 100 6) = 1 ∧ σ 100 5 ≠ σ 100 6 then (if (0 ≤ ef ∧ ef ≤ 4) ∧ (0 ≤ eb ∧ eb ≤ 4) ∧ 0 ≤ p0 ∧ p0 ≤ 11 then jUn σ ef eb p0 else -2) else -3) := by
  by_cases hc : σ (40 + σ 32 7) 0 = 1 ∧ σ (40 + σ 32 8) 0 = 1
  · have hc2 := (iv_se h).1 hc
    rw [if_pos hc, if_pos hc2]
    by_cases hf : (0 ≤ ef ∧ ef ≤ 4) ∧ (0 ≤ eb ∧ eb ≤ 4) ∧ 0 ≤ p0 ∧ p0 ≤ 11
    · rw [if_pos hf, if_pos hf, iv_Un h hf.1 hf.2.1 hf.2.2]
    · rw [if_neg hf, if_neg hf]
  · rw [if_neg hc, if_neg (fun q => hc ((iv_se h).2 q))]
theorem iq_evenest {σ : zS} (h : jInv σ) (ef eb : Int)  : (if σ (40 + σ 32 7) 0 = 1 ∧ σ (40 + σ 32 8) 0 = 1 then (if (0 ≤ ef ∧ ef ≤ 4) ∧ (0 ≤ eb ∧ eb ≤ 4) then mArg 0 (mUnev σ ef eb) 11 else -2) else -3) = (if mBit (σ 100 0) (σ 100 5) = 1 ∧ mBit (σ 100 0) (σ 100 6) = 1 ∧ σ 100 5 ≠ σ 100 6 then (if (0 ≤ ef ∧ ef ≤ 4) ∧ (0 ≤ eb ∧ eb ≤ 4) then mArg 0 (jUn σ ef eb) 11 else -2) else -3) := by
  by_cases hc : σ (40 + σ 32 7) 0 = 1 ∧ σ (40 + σ 32 8) 0 = 1
  · have hc2 := (iv_se h).1 hc
    rw [if_pos hc, if_pos hc2]
    by_cases hf : (0 ≤ ef ∧ ef ≤ 4) ∧ (0 ≤ eb ∧ eb ≤ 4)
    · rw [if_pos hf, if_pos hf]
      exact (mArg_c (fun i a b => (iv_Un h hf.1 hf.2 (by omega)).symm)).1
    · rw [if_neg hf, if_neg hf]
  · rw [if_neg hc, if_neg (fun q => hc ((iv_se h).2 q))]
theorem iq_strong {σ : zS} (h : jInv σ) (rr wh : Int)  : (if 0 ≤ rr ∧ rr ≤ 3 ∧ σ (40 + rr) 0 = 1 then (if 0 ≤ wh ∧ wh ≤ 2 then (if wh = 0 then mSum (fun i => mB ((fun s0 => mHold σ rr s0) (i + 1))) 20 else if wh = 1 then mFst (fun s0 => mHold σ rr s0) 20 else mLst (fun s0 => mHold σ rr s0) 20) else -2) else -1) = (if 0 ≤ rr ∧ rr ≤ 3 ∧ mBit (σ 100 0) rr = 1 then (if 0 ≤ wh ∧ wh ≤ 2 then (if wh = 0 then mSum (fun i => mB ((fun s0 => jHold σ rr s0) (i + 1))) 20 else if wh = 1 then mFst (fun s0 => jHold σ rr s0) 20 else mLst (fun s0 => jHold σ rr s0) 20) else -2) else -1) := by
  by_cases hc : 0 ≤ rr ∧ rr ≤ 3 ∧ σ (40 + rr) 0 = 1
  · have hc2 := (iv_th h rr).1 hc
    have e := h.2.2.1.1 rr hc.1 hc.2.1
    rw [if_pos hc, if_pos hc2]
    rw [iv_Ho h]
  · rw [if_neg hc, if_neg (fun q => hc ((iv_th h rr).2 q))]
theorem iq_oneBeat {σ : zS} (h : jInv σ) (ef eb wh : Int)  : (if σ (40 + σ 32 7) 0 = 1 ∧ σ (40 + σ 32 8) 0 = 1 then (if (0 ≤ ef ∧ ef ≤ 4) ∧ (0 ≤ eb ∧ eb ≤ 4) ∧ 0 ≤ wh ∧ wh ≤ 3 then (if wh = 0 then mArg 4 (mSAB σ ef eb) 6 else if wh = 1 then mSAB σ ef eb (mArg 4 (mSAB σ ef eb) 6) else if wh = 2 then σ 32 12 * (ef * σ (40 + σ 32 7) 1 - mTF σ ef (mArg 4 (mSAB σ ef eb) 6)) else σ 32 12 * (eb * σ (40 + σ 32 8) 1 - mTB σ eb (mArg 4 (mSAB σ ef eb) 6))) else -2) else -3) = (if mBit (σ 100 0) (σ 100 5) = 1 ∧ mBit (σ 100 0) (σ 100 6) = 1 ∧ σ 100 5 ≠ σ 100 6 then (if (0 ≤ ef ∧ ef ≤ 4) ∧ (0 ≤ eb ∧ eb ≤ 4) ∧ 0 ≤ wh ∧ wh ≤ 3 then (if wh = 0 then (jOB σ (5 * ef + eb)) else if wh = 1 then jSA σ (5 * ef + eb) (jOB σ (5 * ef + eb)) else if wh = 2 then σ 100 11 * (mTread (σ 101 (σ 100 5)) (σ 102 (σ 100 5)) ef (σ 102 (σ 100 5)) - mTread (σ 101 (σ 100 5)) (σ 102 (σ 100 5)) ef (jOB σ (5 * ef + eb))) else σ 100 11 * (mTread (σ 101 (σ 100 6)) (σ 102 (σ 100 6)) eb (σ 102 (σ 100 6)) - mTread (σ 101 (σ 100 6)) (σ 102 (σ 100 6)) eb (jOB σ (5 * ef + eb)))) else -2) else -3) := by
  by_cases hc : σ (40 + σ 32 7) 0 = 1 ∧ σ (40 + σ 32 8) 0 = 1
  · have hc2 := (iv_se h).1 hc
    rw [if_pos hc, if_pos hc2]
    by_cases hf : (0 ≤ ef ∧ ef ≤ 4) ∧ (0 ≤ eb ∧ eb ≤ 4) ∧ 0 ≤ wh ∧ wh ≤ 3
    · have f := iv_fr h
      rw [if_pos hf, if_pos hf]
      unfold jOB
      rw [iv_SA h hf.1 hf.2.1, mTread_like, mTread_like, f.1.1, f.1.2.1, f.2.1, f.2.2.1, (iv_sc h).2.2.2.2.2.1]
      rfl
    · rw [if_neg hf, if_neg hf]
  · rw [if_neg hc, if_neg (fun q => hc ((iv_se h).2 q))]
theorem iq_year {σ : zS} (h : jInv σ) (seed n0 wh : Int)  : (if σ (40 + σ 32 7) 0 = 1 ∧ σ (40 + σ 32 8) 0 = 1 then (if (0 ≤ seed ∧ seed ≤ 9999) ∧ (1 ≤ n0 ∧ n0 ≤ 99) ∧ 0 ≤ wh ∧ wh ≤ 2 then (if wh = 0 then mSum (mYv σ seed) n0.toNat else if wh = 1 then mMnS 1000000000 (mYv σ seed) n0.toNat else mMxS 0 (mYv σ seed) n0.toNat) else -2) else -3) = (if mBit (σ 100 0) (σ 100 5) = 1 ∧ mBit (σ 100 0) (σ 100 6) = 1 ∧ σ 100 5 ≠ σ 100 6 then (if (0 ≤ seed ∧ seed ≤ 9999) ∧ (1 ≤ n0 ∧ n0 ≤ 99) ∧ 0 ≤ wh ∧ wh ≤ 2 then (if wh = 0 then mSum (jYv σ seed) n0.toNat else if wh = 1 then mMnS 1000000 (jYv σ seed) n0.toNat else mMxS 0 (jYv σ seed) n0.toNat) else -2) else -3) := by
  by_cases hc : σ (40 + σ 32 7) 0 = 1 ∧ σ (40 + σ 32 8) 0 = 1
  · have hc2 := (iv_se h).1 hc
    rw [if_pos hc, if_pos hc2]
    by_cases hf : (0 ≤ seed ∧ seed ≤ 9999) ∧ (1 ≤ n0 ∧ n0 ≤ 99) ∧ 0 ≤ wh ∧ wh ≤ 2
    · have hb : ∀ i : Int, mYv σ seed i ≤ 5784 := fun i => (mSAB_b σ _ _ _ (pk_hn h)).2
      rw [if_pos hf, if_pos hf, iv_Yv h, mMnS_z (s := 1000000000) (t := 1000000) (f := mYv σ seed) (by omega) (fun i _ _ => by have := hb i; omega)]
    · rw [if_neg hf, if_neg hf]
  · rw [if_neg hc, if_neg (fun q => hc ((iv_se h).2 q))]
theorem iq_told {σ : zS} (h : jInv σ) (wh : Int)  : (if wh = 0 then σ 3 1 else if wh = 1 then mBits σ else if wh = 2 then σ 32 7 else if wh = 3 then σ 32 8 else if wh = 4 then σ 32 9 else if wh = 5 then σ 32 10 else if wh = 6 then σ 32 11 else if wh = 7 then σ 32 12 else if wh = 8 then σ 32 13 else if 100 ≤ wh ∧ wh ≤ 99 + σ 32 12 then σ 34 (wh - 100) else if 10 ≤ wh ∧ wh ≤ 49 then (if 0 ≤ wh / 10 - 1 ∧ wh / 10 - 1 ≤ 3 ∧ σ (40 + (wh / 10 - 1)) 0 = 1 then (if wh % 10 = 0 then σ (40 + (wh / 10 - 1)) 1 else if wh % 10 = 1 then σ (40 + (wh / 10 - 1)) 2 else if wh % 10 = 2 then σ (40 + (wh / 10 - 1)) 3 else if wh % 10 = 3 then σ (40 + (wh / 10 - 1)) 4 else -2) else -2) else -2) = (if 10 ≤ wh ∧ wh ≤ 49 then (if 0 ≤ (wh / 10 - 1) ∧ (wh / 10 - 1) ≤ 3 ∧ mBit (σ 100 0) (wh / 10 - 1) = 1 then (if wh % 10 = 0 then σ 101 (wh / 10 - 1) else if wh % 10 = 1 then σ 102 (wh / 10 - 1) else if wh % 10 = 2 then σ 103 (wh / 10 - 1) else if wh % 10 = 3 then σ 104 (wh / 10 - 1) else -2) else -2) else if 100 ≤ wh ∧ wh ≤ 99 + σ 100 11 then σ 105 (wh - 100) else if wh = 0 then σ 100 18 else if wh = 1 then σ 100 0 else if wh = 2 then σ 100 5 else if wh = 3 then σ 100 6 else if wh = 4 then σ 100 7 else if wh = 5 then σ 100 8 else if wh = 6 then σ 100 9 else if wh = 7 then σ 100 11 else if wh = 8 then σ 100 16 else -2) := by
  have e := iv_sc h
  have e0 : σ 100 0 = mBits σ := h.2.2.1.2.1.1
  have ep := h.2.2.2.1.1
  have o := pk_hn h
  by_cases c1 : 10 ≤ wh ∧ wh ≤ 49
  · rw [if_neg (by omega), if_neg (by omega), if_neg (by omega), if_neg (by omega), if_neg (by omega), if_neg (by omega), if_neg (by omega), if_neg (by omega), if_neg (by omega), if_neg (by omega), if_pos c1, if_pos c1]
    by_cases hc : 0 ≤ wh / 10 - 1 ∧ wh / 10 - 1 ≤ 3 ∧ σ (40 + (wh / 10 - 1)) 0 = 1
    · have g := h.2.2.1.1 (wh / 10 - 1) hc.1 hc.2.1
      rw [if_pos hc, if_pos ((iv_th h _).1 hc), g.1, g.2.1, g.2.2.1, g.2.2.2]
    · rw [if_neg hc, if_neg (fun q => hc ((iv_th h _).2 q))]
  · rw [if_neg c1, if_neg c1]
    by_cases c2 : 100 ≤ wh ∧ wh ≤ 99 + σ 32 12
    · rw [if_neg (by omega), if_neg (by omega), if_neg (by omega), if_neg (by omega), if_neg (by omega), if_neg (by omega), if_neg (by omega), if_neg (by omega), if_neg (by omega), if_pos c2, if_pos (by omega), h.2.2.1.2.2.1 (wh - 100) (by omega) (by omega)]
    · rw [if_neg c2, if_neg (show ¬ (100 ≤ wh ∧ wh ≤ 99 + σ 100 11) by omega), e.1, e.2.1, e.2.2.1, e.2.2.2.1, e.2.2.2.2.1, e.2.2.2.2.2.1, e.2.2.2.2.2.2, e0, ep]