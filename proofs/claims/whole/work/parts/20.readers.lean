def mMax7 (f : Int → Int) : Int := max (max (max (max (max (max (max 0 (f 4)) (f 5)) (f 6)) (f 7)) (f 8)) (f 9)) (f 10)
def mTF (σ : zS) (e b : Int) : Int := mTread (σ (40 + σ 32 7) 1) (σ (40 + σ 32 7) 2) e b
def mTB (σ : zS) (e b : Int) : Int := mTread (σ (40 + σ 32 8) 1) (σ (40 + σ 32 8) 2) e b
def mSAB (σ : zS) (ef eb b : Int) : Int := mSum (fun i => mSec (mHard (σ 35 i)) (mTF σ ef b + mTB σ eb b)) (σ 32 12).toNat
theorem mSAB_b (σ : zS) (ef eb b : Int) (h : 1 ≤ σ 32 12 ∧ σ 32 12 ≤ 24) : 0 ≤ mSAB σ ef eb b ∧ mSAB σ ef eb b ≤ 5784 := by
  have h1 := mSum_b (f := fun i => mSec (mHard (σ 35 i)) (mTF σ ef b + mTB σ eb b)) (A := 241) (n := (σ 32 12).toNat) (fun i _ _ => by
    have a := mHard_b (σ 35 i)
    have q := mSec_b (h := mHard (σ 35 i)) (t := mTF σ ef b + mTB σ eb b) (by omega)
    exact ⟨by omega, q.2⟩)
  unfold mSAB
  omega
def mArg (s : Int) (f : Int → Int) : Nat → Int
  | 0 => s
  | n + 1 => if f (s + n + 1) < f (mArg s f n) then s + n + 1 else mArg s f n
theorem mArg_s (s : Int) (f : Int → Int) {b : Int} (h : s ≤ b) : mArg s f (b + 1 - s).toNat = if f (b + 1) < f (mArg s f (b - s).toNat) then b + 1 else mArg s f (b - s).toNat := by
  have e : (b + 1 - s).toNat = (b - s).toNat + 1 := by omega
  rw [e]
  show (if f (s + ((b - s).toNat : Int) + 1) < _ then s + ((b - s).toNat : Int) + 1 else _) = _
  rw [show s + ((b - s).toNat : Int) + 1 = b + 1 by omega]
noncomputable def mB (p : Prop) : Int := @ite _ p (Classical.propDecidable p) 1 0
theorem mB_t {p : Prop} (h : p) : mB p = 1 := if_pos h
theorem mB_f {p : Prop} (h : ¬ p) : mB p = 0 := if_neg h
theorem mB_b (p : Prop) : mB p = 0 ∨ mB p = 1 := (Classical.em p).elim (fun h => Or.inr (mB_t h)) (fun h => Or.inl (mB_f h))
def mMxS (s : Int) (f : Int → Int) : Nat → Int
  | 0 => s
  | n + 1 => max (mMxS s f n) (f n)
def mMnS (s : Int) (f : Int → Int) : Nat → Int
  | 0 => s
  | n + 1 => min (mMnS s f n) (f n)
theorem mMxS_s (s : Int) (f : Int → Int) {i : Int} (h : 0 ≤ i) : mMxS s f (i + 1).toNat = max (mMxS s f i.toNat) (f i) := by
  have e : (i + 1).toNat = i.toNat + 1 := by omega
  rw [e]
  show max (mMxS s f i.toNat) (f (i.toNat : Int)) = _
  rw [Int.toNat_of_nonneg h]
theorem mMnS_s (s : Int) (f : Int → Int) {i : Int} (h : 0 ≤ i) : mMnS s f (i + 1).toNat = min (mMnS s f i.toNat) (f i) := by
  have e : (i + 1).toNat = i.toNat + 1 := by omega
  rw [e]
  show min (mMnS s f i.toNat) (f (i.toNat : Int)) = _
  rw [Int.toNat_of_nonneg h]
def mPush (sf sb ef eb p k : Int) : Int := ef * sf * mCrank k + eb * sb * mCrank ((k + p) % 12)
theorem mCrank_b {k : Int} (h : 0 ≤ k ∧ k ≤ 12) : 0 ≤ mCrank k ∧ mCrank k ≤ 6 := by
  unfold mCrank mAbs
  split <;> omega
theorem mPush_b {sf sb ef eb p k : Int} (h1 : 0 ≤ sf ∧ sf ≤ 20) (h2 : 0 ≤ sb ∧ sb ≤ 20) (h3 : 0 ≤ ef ∧ ef ≤ 4) (h4 : 0 ≤ eb ∧ eb ≤ 4) (hp : 0 ≤ p ∧ p ≤ 11) (hk : 0 ≤ k ∧ k ≤ 11) : 0 ≤ mPush sf sb ef eb p k ∧ mPush sf sb ef eb p k ≤ 960 ∧ (0 ≤ ef * sf ∧ ef * sf ≤ 80) ∧ (0 ≤ eb * sb ∧ eb * sb ≤ 80) ∧ (0 ≤ ef * sf * mCrank k ∧ ef * sf * mCrank k ≤ 480) ∧ (0 ≤ eb * sb * mCrank ((k + p) % 12) ∧ eb * sb * mCrank ((k + p) % 12) ≤ 480) := by
  have a1 := mulb h3 h1
  have a2 := mulb h4 h2
  have c1 := mCrank_b (k := k) (by omega)
  have c2 := mCrank_b (k := (k + p) % 12) (by omega)
  have b1 := mulb (x := ef * sf) (A := 80) a1 c1
  have b2 := mulb (x := eb * sb) (A := 80) a2 c2
  unfold mPush
  omega
def mUnev (σ : zS) (ef eb p : Int) : Int := mMxS 0 (mPush (σ (40 + σ 32 7) 1) (σ (40 + σ 32 8) 1) ef eb p) 12 - mMnS 1000000000 (mPush (σ (40 + σ 32 7) 1) (σ (40 + σ 32 8) 1) ef eb p) 12
theorem mMxS_b {s : Int} {f : Int → Int} {A : Int} (hs : 0 ≤ s ∧ s ≤ A) : ∀ {n : Nat}, (∀ i : Int, 0 ≤ i → i < n → 0 ≤ f i ∧ f i ≤ A) → 0 ≤ mMxS s f n ∧ mMxS s f n ≤ A
  | 0, _ => hs
  | n + 1, h => by
    have h1 := mMxS_b hs (n := n) (fun i h1 h2 => h i h1 (by omega))
    have h2 := h n (by omega) (by omega)
    show 0 ≤ max (mMxS s f n) (f n) ∧ max (mMxS s f n) (f n) ≤ A
    omega
theorem mMnS_b {s : Int} {f : Int → Int} {A : Int} (hs : 0 ≤ s ∧ s ≤ A) : ∀ {n : Nat}, (∀ i : Int, 0 ≤ i → i < n → 0 ≤ f i ∧ f i ≤ A) → 0 ≤ mMnS s f n ∧ mMnS s f n ≤ A
  | 0, _ => hs
  | n + 1, h => by
    have h1 := mMnS_b hs (n := n) (fun i h1 h2 => h i h1 (by omega))
    have h2 := h n (by omega) (by omega)
    show 0 ≤ min (mMnS s f n) (f n) ∧ min (mMnS s f n) (f n) ≤ A
    omega

set_option maxRecDepth 20000 in
set_option maxHeartbeats 4000000 in
theorem c_X7_areSeated {l : Launch} {D : va_G} {Y : Nat → ClassId} {a : Int → Nat} (hI : zI a) (σ : zS)  (hth : ∀ r : Int, 0 ≤ r → r ≤ 3 → σ (40 + r) 0 = 0 ∨ σ (40 + r) 0 = 1) (hse : (0 ≤ σ 32 7 ∧ σ 32 7 ≤ 3) ∧ (0 ≤ σ 32 8 ∧ σ 32 8 ≤ 3)) : zMet l yX7_areSeated cX7_areSeated 1 (some .boolean) 2 (zPc D Y a σ [.ref (a 0)]) (zSi (if σ (40 + σ 32 7) 0 = 1 ∧ σ (40 + σ 32 8) 0 = 1 then (1 : Int) else 0)) zNo := by
  refine z_start rfl (Nat.le_of_ble_eq_true rfl) hI ?_
  intro p e s m below meth c ls C hr hlocks hl hP
  have hl : lv_has ls 1 [(0, .ref (a 0))] := hl
  refine z_aload_n C hl 0 rfl dX7_areSeated_0 ?_
  refine zg_X7_12 C hP dX7_areSeated_1 ?_
  refine z_aload_n C hl 0 rfl dX7_areSeated_4 ?_
  refine zg_X7_12 C hP dX7_areSeated_5 ?_
  refine zg32_X7_78 C hP dX7_areSeated_8 ?_
  refine z_vSi C hP (As := [.int (iI (σ 32 7))]) lk_X7_70 (c_X6_isThere hI σ (σ 32 7) ⟨by omega, by omega⟩ hth) (ob_set (by unfold zSet; omega)) rfl rfl rfl hl.1 rfl (Nat.le_of_ble_eq_true rfl) ⟨Nat.le_of_ble_eq_true rfl, Nat.le_of_ble_eq_true rfl⟩ ⟨Nat.zero_le _, Nat.zero_le _⟩ dX7_areSeated_11 ?_
  by_cases b_11 : 0 ≤ (σ 32 7) ∧ (σ 32 7) ≤ 3 ∧ σ (40 + (σ 32 7)) 0 = 1
  · rw [show (if 0 ≤ (σ 32 7) ∧ (σ 32 7) ≤ 3 ∧ σ (40 + (σ 32 7)) 0 = 1 then (1 : Int) else 0) = 1 from if_pos b_11]
    refine z_ifF_eq C 38 dX7_areSeated_14 (by decide) ⟨by decide, by decide⟩ (by decide) ?_
    refine z_aload_n C hl 0 rfl dX7_areSeated_17 ?_
    refine zg_X7_12 C hP dX7_areSeated_18 ?_
    refine z_aload_n C hl 0 rfl dX7_areSeated_21 ?_
    refine zg_X7_12 C hP dX7_areSeated_22 ?_
    refine zg32_X7_82 C hP dX7_areSeated_25 ?_
    refine z_vSi C hP (As := [.int (iI (σ 32 8))]) lk_X7_70 (c_X6_isThere hI σ (σ 32 8) ⟨by omega, by omega⟩ hth) (ob_set (by unfold zSet; omega)) rfl rfl rfl hl.1 rfl (Nat.le_of_ble_eq_true rfl) ⟨Nat.le_of_ble_eq_true rfl, Nat.le_of_ble_eq_true rfl⟩ ⟨Nat.zero_le _, Nat.zero_le _⟩ dX7_areSeated_28 ?_
    by_cases b_28 : 0 ≤ (σ 32 8) ∧ (σ 32 8) ≤ 3 ∧ σ (40 + (σ 32 8)) 0 = 1
    · rw [show (if 0 ≤ (σ 32 8) ∧ (σ 32 8) ≤ 3 ∧ σ (40 + (σ 32 8)) 0 = 1 then (1 : Int) else 0) = 1 from if_pos b_28]
      refine z_ifF_eq C 38 dX7_areSeated_31 (by decide) ⟨by decide, by decide⟩ (by decide) ?_
      refine z_iconst C dX7_areSeated_34 ?_
      refine z_goto C 39 dX7_areSeated_35 (by decide) ?_
      exact z_retSi C hr hlocks (zNb (by first | omega | (split <;> omega))) (by first | rfl | (rw [if_pos (by omega)]) | (rw [if_neg (by omega)]) | omega) dX7_areSeated_39
    · rw [show (if 0 ≤ (σ 32 8) ∧ (σ 32 8) ≤ 3 ∧ σ (40 + (σ 32 8)) 0 = 1 then (1 : Int) else 0) = 0 from if_neg b_28]
      refine z_ifT_eq C 38 dX7_areSeated_31 (by decide) ⟨by decide, by decide⟩ (by decide) ?_
      refine z_iconst C dX7_areSeated_38 ?_
      exact z_retSi C hr hlocks (zNb (by first | omega | (split <;> omega))) (by first | rfl | (rw [if_pos (by omega)]) | (rw [if_neg (by omega)]) | omega) dX7_areSeated_39
  · rw [show (if 0 ≤ (σ 32 7) ∧ (σ 32 7) ≤ 3 ∧ σ (40 + (σ 32 7)) 0 = 1 then (1 : Int) else 0) = 0 from if_neg b_11]
    refine z_ifT_eq C 38 dX7_areSeated_14 (by decide) ⟨by decide, by decide⟩ (by decide) ?_
    refine z_iconst C dX7_areSeated_38 ?_
    exact z_retSi C hr hlocks (zNb (by first | omega | (split <;> omega))) (by first | rfl | (rw [if_pos (by omega)]) | (rw [if_neg (by omega)]) | omega) dX7_areSeated_39

set_option maxRecDepth 20000 in
set_option maxHeartbeats 4000000 in
theorem c_X7_mostTreads {l : Launch} {D : va_G} {Y : Nat → ClassId} {a : Int → Nat} (hI : zI a) (σ : zS) (k1 e1 k2 e2 : Int) (hk1 : zRid k1) (hsk1 : 0 ≤ σ k1 1 ∧ σ k1 1 ≤ 20) (hlk1 : 0 ≤ σ k1 2 ∧ σ k1 2 ≤ 10) (hek1 : 0 ≤ e1 ∧ e1 ≤ 4) (hk2 : zRid k2) (hsk2 : 0 ≤ σ k2 1 ∧ σ k2 1 ≤ 20) (hlk2 : 0 ≤ σ k2 2 ∧ σ k2 2 ≤ 10) (hek2 : 0 ≤ e2 ∧ e2 ≤ 4) : zMet l yX7_mostTreads cX7_mostTreads 6 (some .int) 2 (zPc D Y a σ [.ref (a k1), .int (iI e1), .ref (a k2), .int (iI e2)]) (zSi (mMax7 (fun b => mTread (σ k1 1) (σ k1 2) e1 b + mTread (σ k2 1) (σ k2 2) e2 b))) zNo := by
  refine z_start rfl (Nat.le_of_ble_eq_true rfl) hI ?_
  intro p e s m below meth c ls C hr hlocks hl hP
  have hl : lv_has ls 6 [(0, .ref (a k1)), (1, .int (iI e1)), (2, .ref (a k2)), (3, .int (iI e2))] := hl
  have htb := fun (b : Int) (hb : 4 ≤ b ∧ b ≤ 10) => And.intro (mTread_b hsk1 hlk1 hek1 hb) (mTread_b hsk2 hlk2 hek2 hb)
  have ht4 := htb 4 (by decide)
  have ht5 := htb 5 (by decide)
  have ht6 := htb 6 (by decide)
  have ht7 := htb 7 (by decide)
  have ht8 := htb 8 (by decide)
  have ht9 := htb 9 (by decide)
  have ht10 := htb 10 (by decide)
  refine z_iconst C dX7_mostTreads_0 ?_
  refine z_istore C [1, 2, 3, 4, 0] [(0, .ref (a k1)), (1, .int (iI e1)), (2, .ref (a k2)), (3, .int (iI e2)), (4, .int (iI 0))] hl (by decide) rfl dX7_mostTreads_1 (fun ls hl => ?_)
  refine z_iconst C dX7_mostTreads_3 ?_
  refine z_istore C [1, 2, 3, 4, 5, 0] [(0, .ref (a k1)), (1, .int (iI e1)), (2, .ref (a k2)), (3, .int (iI e2)), (4, .int (iI 0)), (5, .int (iI 4))] hl (by decide) rfl dX7_mostTreads_4 (fun ls hl => ?_)
  refine z_iload C hl 5 rfl dX7_mostTreads_6 ?_
  refine z_bipush C (by decide +kernel) dX7_mostTreads_8 ?_
  refine z_icmpF_gt C 41 dX7_mostTreads_10 (by decide) ⟨by decide, by decide⟩ ⟨by decide, by decide⟩ (by decide) ?_
  refine z_iload C hl 4 rfl dX7_mostTreads_13 ?_
  refine z_aload_n C hl 0 rfl dX7_mostTreads_15 ?_
  refine z_iload_n C hl 1 rfl dX7_mostTreads_16 ?_
  refine z_iload C hl 5 rfl dX7_mostTreads_17 ?_
  refine z_vSi C hP (As := [.int (iI e1), .int (iI 4)]) lk_X7_118 (c_X4_treads hI σ k1 e1 4 hk1 hsk1 hlk1 hek1 (by omega)) (ob_rid (by first | assumption)) rfl rfl rfl hl.1 rfl (Nat.le_of_ble_eq_true rfl) ⟨Nat.le_of_ble_eq_true rfl, Nat.le_of_ble_eq_true rfl⟩ ⟨Nat.zero_le _, Nat.zero_le _⟩ dX7_mostTreads_19 ?_
  refine z_aload_n C hl 2 rfl dX7_mostTreads_22 ?_
  refine z_iload_n C hl 3 rfl dX7_mostTreads_23 ?_
  refine z_iload C hl 5 rfl dX7_mostTreads_24 ?_
  refine z_vSi C hP (As := [.int (iI e2), .int (iI 4)]) lk_X7_118 (c_X4_treads hI σ k2 e2 4 hk2 hsk2 hlk2 hek2 (by omega)) (ob_rid (by first | assumption)) rfl rfl rfl hl.1 rfl (Nat.le_of_ble_eq_true rfl) ⟨Nat.le_of_ble_eq_true rfl, Nat.le_of_ble_eq_true rfl⟩ ⟨Nat.zero_le _, Nat.zero_le _⟩ dX7_mostTreads_26 ?_
  refine z_iadd C dX7_mostTreads_29 ?_
  refine z_max C ⟨by omega, by omega⟩ ⟨by omega, by omega⟩ wd_511 hl.1 ⟨(Nat.le_of_ble_eq_true rfl), (Nat.le_of_ble_eq_true rfl)⟩ ⟨Nat.zero_le _, Nat.zero_le _⟩ dX7_mostTreads_30 ?_
  refine z_topi (fun x1 hx1 => ?_)
  refine z_istore C [1, 2, 3, 4, 0, 5] [(0, .ref (a k1)), (1, .int (iI e1)), (2, .ref (a k2)), (3, .int (iI e2)), (4, .int (iI x1)), (5, .int (iI 4))] hl (by decide) rfl dX7_mostTreads_33 (fun ls hl => ?_)
  refine z_iinc C 5 [1, 2, 3, 4, 5, 0] [(0, .ref (a k1)), (1, .int (iI e1)), (2, .ref (a k2)), (3, .int (iI e2)), (4, .int (iI x1)), (5, .int (iI 5))] hl rfl (by decide) rfl dX7_mostTreads_35 (fun ls hl => ?_)
  refine z_goto C 6 dX7_mostTreads_38 (by decide) ?_
  refine z_iload C hl 5 rfl dX7_mostTreads_6 ?_
  refine z_bipush C (by decide +kernel) dX7_mostTreads_8 ?_
  refine z_icmpF_gt C 41 dX7_mostTreads_10 (by decide) ⟨by decide, by decide⟩ ⟨by decide, by decide⟩ (by decide) ?_
  refine z_iload C hl 4 rfl dX7_mostTreads_13 ?_
  refine z_aload_n C hl 0 rfl dX7_mostTreads_15 ?_
  refine z_iload_n C hl 1 rfl dX7_mostTreads_16 ?_
  refine z_iload C hl 5 rfl dX7_mostTreads_17 ?_
  refine z_vSi C hP (As := [.int (iI e1), .int (iI 5)]) lk_X7_118 (c_X4_treads hI σ k1 e1 5 hk1 hsk1 hlk1 hek1 (by omega)) (ob_rid (by first | assumption)) rfl rfl rfl hl.1 rfl (Nat.le_of_ble_eq_true rfl) ⟨Nat.le_of_ble_eq_true rfl, Nat.le_of_ble_eq_true rfl⟩ ⟨Nat.zero_le _, Nat.zero_le _⟩ dX7_mostTreads_19 ?_
  refine z_aload_n C hl 2 rfl dX7_mostTreads_22 ?_
  refine z_iload_n C hl 3 rfl dX7_mostTreads_23 ?_
  refine z_iload C hl 5 rfl dX7_mostTreads_24 ?_
  refine z_vSi C hP (As := [.int (iI e2), .int (iI 5)]) lk_X7_118 (c_X4_treads hI σ k2 e2 5 hk2 hsk2 hlk2 hek2 (by omega)) (ob_rid (by first | assumption)) rfl rfl rfl hl.1 rfl (Nat.le_of_ble_eq_true rfl) ⟨Nat.le_of_ble_eq_true rfl, Nat.le_of_ble_eq_true rfl⟩ ⟨Nat.zero_le _, Nat.zero_le _⟩ dX7_mostTreads_26 ?_
  refine z_iadd C dX7_mostTreads_29 ?_
  refine z_max C ⟨by omega, by omega⟩ ⟨by omega, by omega⟩ wd_511 hl.1 ⟨(Nat.le_of_ble_eq_true rfl), (Nat.le_of_ble_eq_true rfl)⟩ ⟨Nat.zero_le _, Nat.zero_le _⟩ dX7_mostTreads_30 ?_
  refine z_topi (fun x2 hx2 => ?_)
  refine z_istore C [1, 2, 3, 4, 0, 5] [(0, .ref (a k1)), (1, .int (iI e1)), (2, .ref (a k2)), (3, .int (iI e2)), (4, .int (iI x2)), (5, .int (iI 5))] hl (by decide) rfl dX7_mostTreads_33 (fun ls hl => ?_)
  refine z_iinc C 5 [1, 2, 3, 4, 5, 0] [(0, .ref (a k1)), (1, .int (iI e1)), (2, .ref (a k2)), (3, .int (iI e2)), (4, .int (iI x2)), (5, .int (iI 6))] hl rfl (by decide) rfl dX7_mostTreads_35 (fun ls hl => ?_)
  refine z_goto C 6 dX7_mostTreads_38 (by decide) ?_
  refine z_iload C hl 5 rfl dX7_mostTreads_6 ?_
  refine z_bipush C (by decide +kernel) dX7_mostTreads_8 ?_
  refine z_icmpF_gt C 41 dX7_mostTreads_10 (by decide) ⟨by decide, by decide⟩ ⟨by decide, by decide⟩ (by decide) ?_
  refine z_iload C hl 4 rfl dX7_mostTreads_13 ?_
  refine z_aload_n C hl 0 rfl dX7_mostTreads_15 ?_
  refine z_iload_n C hl 1 rfl dX7_mostTreads_16 ?_
  refine z_iload C hl 5 rfl dX7_mostTreads_17 ?_
  refine z_vSi C hP (As := [.int (iI e1), .int (iI 6)]) lk_X7_118 (c_X4_treads hI σ k1 e1 6 hk1 hsk1 hlk1 hek1 (by omega)) (ob_rid (by first | assumption)) rfl rfl rfl hl.1 rfl (Nat.le_of_ble_eq_true rfl) ⟨Nat.le_of_ble_eq_true rfl, Nat.le_of_ble_eq_true rfl⟩ ⟨Nat.zero_le _, Nat.zero_le _⟩ dX7_mostTreads_19 ?_
  refine z_aload_n C hl 2 rfl dX7_mostTreads_22 ?_
  refine z_iload_n C hl 3 rfl dX7_mostTreads_23 ?_
  refine z_iload C hl 5 rfl dX7_mostTreads_24 ?_
  refine z_vSi C hP (As := [.int (iI e2), .int (iI 6)]) lk_X7_118 (c_X4_treads hI σ k2 e2 6 hk2 hsk2 hlk2 hek2 (by omega)) (ob_rid (by first | assumption)) rfl rfl rfl hl.1 rfl (Nat.le_of_ble_eq_true rfl) ⟨Nat.le_of_ble_eq_true rfl, Nat.le_of_ble_eq_true rfl⟩ ⟨Nat.zero_le _, Nat.zero_le _⟩ dX7_mostTreads_26 ?_
  refine z_iadd C dX7_mostTreads_29 ?_
  refine z_max C ⟨by omega, by omega⟩ ⟨by omega, by omega⟩ wd_511 hl.1 ⟨(Nat.le_of_ble_eq_true rfl), (Nat.le_of_ble_eq_true rfl)⟩ ⟨Nat.zero_le _, Nat.zero_le _⟩ dX7_mostTreads_30 ?_
  refine z_topi (fun x3 hx3 => ?_)
  refine z_istore C [1, 2, 3, 4, 0, 5] [(0, .ref (a k1)), (1, .int (iI e1)), (2, .ref (a k2)), (3, .int (iI e2)), (4, .int (iI x3)), (5, .int (iI 6))] hl (by decide) rfl dX7_mostTreads_33 (fun ls hl => ?_)
  refine z_iinc C 5 [1, 2, 3, 4, 5, 0] [(0, .ref (a k1)), (1, .int (iI e1)), (2, .ref (a k2)), (3, .int (iI e2)), (4, .int (iI x3)), (5, .int (iI 7))] hl rfl (by decide) rfl dX7_mostTreads_35 (fun ls hl => ?_)
  refine z_goto C 6 dX7_mostTreads_38 (by decide) ?_
  refine z_iload C hl 5 rfl dX7_mostTreads_6 ?_
  refine z_bipush C (by decide +kernel) dX7_mostTreads_8 ?_
  refine z_icmpF_gt C 41 dX7_mostTreads_10 (by decide) ⟨by decide, by decide⟩ ⟨by decide, by decide⟩ (by decide) ?_
  refine z_iload C hl 4 rfl dX7_mostTreads_13 ?_
  refine z_aload_n C hl 0 rfl dX7_mostTreads_15 ?_
  refine z_iload_n C hl 1 rfl dX7_mostTreads_16 ?_
  refine z_iload C hl 5 rfl dX7_mostTreads_17 ?_
  refine z_vSi C hP (As := [.int (iI e1), .int (iI 7)]) lk_X7_118 (c_X4_treads hI σ k1 e1 7 hk1 hsk1 hlk1 hek1 (by omega)) (ob_rid (by first | assumption)) rfl rfl rfl hl.1 rfl (Nat.le_of_ble_eq_true rfl) ⟨Nat.le_of_ble_eq_true rfl, Nat.le_of_ble_eq_true rfl⟩ ⟨Nat.zero_le _, Nat.zero_le _⟩ dX7_mostTreads_19 ?_
  refine z_aload_n C hl 2 rfl dX7_mostTreads_22 ?_
  refine z_iload_n C hl 3 rfl dX7_mostTreads_23 ?_
  refine z_iload C hl 5 rfl dX7_mostTreads_24 ?_
  refine z_vSi C hP (As := [.int (iI e2), .int (iI 7)]) lk_X7_118 (c_X4_treads hI σ k2 e2 7 hk2 hsk2 hlk2 hek2 (by omega)) (ob_rid (by first | assumption)) rfl rfl rfl hl.1 rfl (Nat.le_of_ble_eq_true rfl) ⟨Nat.le_of_ble_eq_true rfl, Nat.le_of_ble_eq_true rfl⟩ ⟨Nat.zero_le _, Nat.zero_le _⟩ dX7_mostTreads_26 ?_
  refine z_iadd C dX7_mostTreads_29 ?_
  refine z_max C ⟨by omega, by omega⟩ ⟨by omega, by omega⟩ wd_511 hl.1 ⟨(Nat.le_of_ble_eq_true rfl), (Nat.le_of_ble_eq_true rfl)⟩ ⟨Nat.zero_le _, Nat.zero_le _⟩ dX7_mostTreads_30 ?_
  refine z_topi (fun x4 hx4 => ?_)
  refine z_istore C [1, 2, 3, 4, 0, 5] [(0, .ref (a k1)), (1, .int (iI e1)), (2, .ref (a k2)), (3, .int (iI e2)), (4, .int (iI x4)), (5, .int (iI 7))] hl (by decide) rfl dX7_mostTreads_33 (fun ls hl => ?_)
  refine z_iinc C 5 [1, 2, 3, 4, 5, 0] [(0, .ref (a k1)), (1, .int (iI e1)), (2, .ref (a k2)), (3, .int (iI e2)), (4, .int (iI x4)), (5, .int (iI 8))] hl rfl (by decide) rfl dX7_mostTreads_35 (fun ls hl => ?_)
  refine z_goto C 6 dX7_mostTreads_38 (by decide) ?_
  refine z_iload C hl 5 rfl dX7_mostTreads_6 ?_
  refine z_bipush C (by decide +kernel) dX7_mostTreads_8 ?_
  refine z_icmpF_gt C 41 dX7_mostTreads_10 (by decide) ⟨by decide, by decide⟩ ⟨by decide, by decide⟩ (by decide) ?_
  refine z_iload C hl 4 rfl dX7_mostTreads_13 ?_
  refine z_aload_n C hl 0 rfl dX7_mostTreads_15 ?_
  refine z_iload_n C hl 1 rfl dX7_mostTreads_16 ?_
  refine z_iload C hl 5 rfl dX7_mostTreads_17 ?_
  refine z_vSi C hP (As := [.int (iI e1), .int (iI 8)]) lk_X7_118 (c_X4_treads hI σ k1 e1 8 hk1 hsk1 hlk1 hek1 (by omega)) (ob_rid (by first | assumption)) rfl rfl rfl hl.1 rfl (Nat.le_of_ble_eq_true rfl) ⟨Nat.le_of_ble_eq_true rfl, Nat.le_of_ble_eq_true rfl⟩ ⟨Nat.zero_le _, Nat.zero_le _⟩ dX7_mostTreads_19 ?_
  refine z_aload_n C hl 2 rfl dX7_mostTreads_22 ?_
  refine z_iload_n C hl 3 rfl dX7_mostTreads_23 ?_
  refine z_iload C hl 5 rfl dX7_mostTreads_24 ?_
  refine z_vSi C hP (As := [.int (iI e2), .int (iI 8)]) lk_X7_118 (c_X4_treads hI σ k2 e2 8 hk2 hsk2 hlk2 hek2 (by omega)) (ob_rid (by first | assumption)) rfl rfl rfl hl.1 rfl (Nat.le_of_ble_eq_true rfl) ⟨Nat.le_of_ble_eq_true rfl, Nat.le_of_ble_eq_true rfl⟩ ⟨Nat.zero_le _, Nat.zero_le _⟩ dX7_mostTreads_26 ?_
  refine z_iadd C dX7_mostTreads_29 ?_
  refine z_max C ⟨by omega, by omega⟩ ⟨by omega, by omega⟩ wd_511 hl.1 ⟨(Nat.le_of_ble_eq_true rfl), (Nat.le_of_ble_eq_true rfl)⟩ ⟨Nat.zero_le _, Nat.zero_le _⟩ dX7_mostTreads_30 ?_
  refine z_topi (fun x5 hx5 => ?_)
  refine z_istore C [1, 2, 3, 4, 0, 5] [(0, .ref (a k1)), (1, .int (iI e1)), (2, .ref (a k2)), (3, .int (iI e2)), (4, .int (iI x5)), (5, .int (iI 8))] hl (by decide) rfl dX7_mostTreads_33 (fun ls hl => ?_)
  refine z_iinc C 5 [1, 2, 3, 4, 5, 0] [(0, .ref (a k1)), (1, .int (iI e1)), (2, .ref (a k2)), (3, .int (iI e2)), (4, .int (iI x5)), (5, .int (iI 9))] hl rfl (by decide) rfl dX7_mostTreads_35 (fun ls hl => ?_)
  refine z_goto C 6 dX7_mostTreads_38 (by decide) ?_
  refine z_iload C hl 5 rfl dX7_mostTreads_6 ?_
  refine z_bipush C (by decide +kernel) dX7_mostTreads_8 ?_
  refine z_icmpF_gt C 41 dX7_mostTreads_10 (by decide) ⟨by decide, by decide⟩ ⟨by decide, by decide⟩ (by decide) ?_
  refine z_iload C hl 4 rfl dX7_mostTreads_13 ?_
  refine z_aload_n C hl 0 rfl dX7_mostTreads_15 ?_
  refine z_iload_n C hl 1 rfl dX7_mostTreads_16 ?_
  refine z_iload C hl 5 rfl dX7_mostTreads_17 ?_
  refine z_vSi C hP (As := [.int (iI e1), .int (iI 9)]) lk_X7_118 (c_X4_treads hI σ k1 e1 9 hk1 hsk1 hlk1 hek1 (by omega)) (ob_rid (by first | assumption)) rfl rfl rfl hl.1 rfl (Nat.le_of_ble_eq_true rfl) ⟨Nat.le_of_ble_eq_true rfl, Nat.le_of_ble_eq_true rfl⟩ ⟨Nat.zero_le _, Nat.zero_le _⟩ dX7_mostTreads_19 ?_
  refine z_aload_n C hl 2 rfl dX7_mostTreads_22 ?_
  refine z_iload_n C hl 3 rfl dX7_mostTreads_23 ?_
  refine z_iload C hl 5 rfl dX7_mostTreads_24 ?_
  refine z_vSi C hP (As := [.int (iI e2), .int (iI 9)]) lk_X7_118 (c_X4_treads hI σ k2 e2 9 hk2 hsk2 hlk2 hek2 (by omega)) (ob_rid (by first | assumption)) rfl rfl rfl hl.1 rfl (Nat.le_of_ble_eq_true rfl) ⟨Nat.le_of_ble_eq_true rfl, Nat.le_of_ble_eq_true rfl⟩ ⟨Nat.zero_le _, Nat.zero_le _⟩ dX7_mostTreads_26 ?_
  refine z_iadd C dX7_mostTreads_29 ?_
  refine z_max C ⟨by omega, by omega⟩ ⟨by omega, by omega⟩ wd_511 hl.1 ⟨(Nat.le_of_ble_eq_true rfl), (Nat.le_of_ble_eq_true rfl)⟩ ⟨Nat.zero_le _, Nat.zero_le _⟩ dX7_mostTreads_30 ?_
  refine z_topi (fun x6 hx6 => ?_)
  refine z_istore C [1, 2, 3, 4, 0, 5] [(0, .ref (a k1)), (1, .int (iI e1)), (2, .ref (a k2)), (3, .int (iI e2)), (4, .int (iI x6)), (5, .int (iI 9))] hl (by decide) rfl dX7_mostTreads_33 (fun ls hl => ?_)
  refine z_iinc C 5 [1, 2, 3, 4, 5, 0] [(0, .ref (a k1)), (1, .int (iI e1)), (2, .ref (a k2)), (3, .int (iI e2)), (4, .int (iI x6)), (5, .int (iI 10))] hl rfl (by decide) rfl dX7_mostTreads_35 (fun ls hl => ?_)
  refine z_goto C 6 dX7_mostTreads_38 (by decide) ?_
  refine z_iload C hl 5 rfl dX7_mostTreads_6 ?_
  refine z_bipush C (by decide +kernel) dX7_mostTreads_8 ?_
  refine z_icmpF_gt C 41 dX7_mostTreads_10 (by decide) ⟨by decide, by decide⟩ ⟨by decide, by decide⟩ (by decide) ?_
  refine z_iload C hl 4 rfl dX7_mostTreads_13 ?_
  refine z_aload_n C hl 0 rfl dX7_mostTreads_15 ?_
  refine z_iload_n C hl 1 rfl dX7_mostTreads_16 ?_
  refine z_iload C hl 5 rfl dX7_mostTreads_17 ?_
  refine z_vSi C hP (As := [.int (iI e1), .int (iI 10)]) lk_X7_118 (c_X4_treads hI σ k1 e1 10 hk1 hsk1 hlk1 hek1 (by omega)) (ob_rid (by first | assumption)) rfl rfl rfl hl.1 rfl (Nat.le_of_ble_eq_true rfl) ⟨Nat.le_of_ble_eq_true rfl, Nat.le_of_ble_eq_true rfl⟩ ⟨Nat.zero_le _, Nat.zero_le _⟩ dX7_mostTreads_19 ?_
  refine z_aload_n C hl 2 rfl dX7_mostTreads_22 ?_
  refine z_iload_n C hl 3 rfl dX7_mostTreads_23 ?_
  refine z_iload C hl 5 rfl dX7_mostTreads_24 ?_
  refine z_vSi C hP (As := [.int (iI e2), .int (iI 10)]) lk_X7_118 (c_X4_treads hI σ k2 e2 10 hk2 hsk2 hlk2 hek2 (by omega)) (ob_rid (by first | assumption)) rfl rfl rfl hl.1 rfl (Nat.le_of_ble_eq_true rfl) ⟨Nat.le_of_ble_eq_true rfl, Nat.le_of_ble_eq_true rfl⟩ ⟨Nat.zero_le _, Nat.zero_le _⟩ dX7_mostTreads_26 ?_
  refine z_iadd C dX7_mostTreads_29 ?_
  refine z_max C ⟨by omega, by omega⟩ ⟨by omega, by omega⟩ wd_511 hl.1 ⟨(Nat.le_of_ble_eq_true rfl), (Nat.le_of_ble_eq_true rfl)⟩ ⟨Nat.zero_le _, Nat.zero_le _⟩ dX7_mostTreads_30 ?_
  refine z_topi (fun x7 hx7 => ?_)
  refine z_istore C [1, 2, 3, 4, 0, 5] [(0, .ref (a k1)), (1, .int (iI e1)), (2, .ref (a k2)), (3, .int (iI e2)), (4, .int (iI x7)), (5, .int (iI 10))] hl (by decide) rfl dX7_mostTreads_33 (fun ls hl => ?_)
  refine z_iinc C 5 [1, 2, 3, 4, 5, 0] [(0, .ref (a k1)), (1, .int (iI e1)), (2, .ref (a k2)), (3, .int (iI e2)), (4, .int (iI x7)), (5, .int (iI 11))] hl rfl (by decide) rfl dX7_mostTreads_35 (fun ls hl => ?_)
  refine z_goto C 6 dX7_mostTreads_38 (by decide) ?_
  refine z_iload C hl 5 rfl dX7_mostTreads_6 ?_
  refine z_bipush C (by decide +kernel) dX7_mostTreads_8 ?_
  refine z_icmpT_gt C 41 dX7_mostTreads_10 (by decide) ⟨by decide, by decide⟩ ⟨by decide, by decide⟩ (by decide) ?_
  refine z_iload C hl 4 rfl dX7_mostTreads_41 ?_
  exact z_retSi C hr hlocks rfl (by subst_vars; rfl) dX7_mostTreads_43

set_option maxRecDepth 20000 in
set_option maxHeartbeats 4000000 in
theorem c_X7_secondsAtBeat {l : Launch} {D : va_G} {Y : Nat → ClassId} {a : Int → Nat} (hI : zI a) (σ : zS) (ef eb b : Int) (hse : (0 ≤ σ 32 7 ∧ σ 32 7 ≤ 3) ∧ (0 ≤ σ 32 8 ∧ σ 32 8 ≤ 3)) (hrd : ∀ r : Int, 0 ≤ r → r ≤ 3 → (0 ≤ σ (40 + r) 1 ∧ σ (40 + r) 1 ≤ 20) ∧ (0 ≤ σ (40 + r) 2 ∧ σ (40 + r) 2 ≤ 10) ∧ (0 ≤ σ (40 + r) 3 ∧ σ (40 + r) 3 ≤ 9) ∧ (0 ≤ σ (40 + r) 4 ∧ σ (40 + r) 4 ≤ 50)) (hn : 1 ≤ σ 32 12 ∧ σ 32 12 ≤ 24) (hg : ∀ i : Int, 0 ≤ i → i < 24 → -1 ≤ σ 35 i ∧ σ 35 i ≤ 6) (hef : 0 ≤ ef ∧ ef ≤ 4) (heb : 0 ≤ eb ∧ eb ≤ 4) (hb : 4 ≤ b ∧ b ≤ 10) : zMet l yX7_secondsAtBeat cX7_secondsAtBeat 5 (some .int) 3 (zPc D Y a σ [.ref (a 0), .int (iI ef), .int (iI eb), .int (iI b)]) (zSi (mSAB σ ef eb b)) zNo := by
  refine z_start rfl (Nat.le_of_ble_eq_true rfl) hI ?_
  intro p e s m below meth c ls C hr hlocks hl hP
  have hl : lv_has ls 5 [(0, .ref (a 0)), (1, .int (iI ef)), (2, .int (iI eb)), (3, .int (iI b))] := hl
  have hrf := hrd (σ 32 7) (by omega) (by omega)
  have hrb := hrd (σ 32 8) (by omega) (by omega)
  have htf := mTread_b hrf.1 hrf.2.1 hef hb
  have htbb := mTread_b hrb.1 hrb.2.1 heb hb
  refine z_aload_n C hl 0 rfl dX7_secondsAtBeat_0 ?_
  refine zg_X7_12 C hP dX7_secondsAtBeat_1 ?_
  refine z_vSr C hP (As := []) lk_X7_171 (c_X6_riderInFront hI σ  (by omega)) (ob_set (by unfold zSet; omega)) rfl rfl rfl hl.1 rfl (Nat.le_of_ble_eq_true rfl) ⟨Nat.le_of_ble_eq_true rfl, Nat.le_of_ble_eq_true rfl⟩ ⟨Nat.zero_le _, Nat.zero_le _⟩ dX7_secondsAtBeat_4 ?_
  refine z_iload_n C hl 1 rfl dX7_secondsAtBeat_7 ?_
  refine z_iload_n C hl 3 rfl dX7_secondsAtBeat_8 ?_
  refine z_vSi C hP (As := [.int (iI ef), .int (iI b)]) lk_X7_118 (c_X4_treads hI σ (40 + σ 32 7) ef b (by unfold zRid; omega) hrf.1 hrf.2.1 hef hb) (ob_rid (by unfold zRid; omega)) rfl rfl rfl hl.1 rfl (Nat.le_of_ble_eq_true rfl) ⟨Nat.le_of_ble_eq_true rfl, Nat.le_of_ble_eq_true rfl⟩ ⟨Nat.zero_le _, Nat.zero_le _⟩ dX7_secondsAtBeat_9 ?_
  refine z_aload_n C hl 0 rfl dX7_secondsAtBeat_12 ?_
  refine zg_X7_12 C hP dX7_secondsAtBeat_13 ?_
  refine z_vSr C hP (As := []) lk_X7_175 (c_X6_riderInBack hI σ  (by omega)) (ob_set (by unfold zSet; omega)) rfl rfl rfl hl.1 rfl (Nat.le_of_ble_eq_true rfl) ⟨Nat.le_of_ble_eq_true rfl, Nat.le_of_ble_eq_true rfl⟩ ⟨Nat.zero_le _, Nat.zero_le _⟩ dX7_secondsAtBeat_16 ?_
  refine z_iload_n C hl 2 rfl dX7_secondsAtBeat_19 ?_
  refine z_iload_n C hl 3 rfl dX7_secondsAtBeat_20 ?_
  refine z_vSi C hP (As := [.int (iI eb), .int (iI b)]) lk_X7_118 (c_X4_treads hI σ (40 + σ 32 8) eb b (by unfold zRid; omega) hrb.1 hrb.2.1 heb hb) (ob_rid (by unfold zRid; omega)) rfl rfl rfl hl.1 rfl (Nat.le_of_ble_eq_true rfl) ⟨Nat.le_of_ble_eq_true rfl, Nat.le_of_ble_eq_true rfl⟩ ⟨Nat.zero_le _, Nat.zero_le _⟩ dX7_secondsAtBeat_21 ?_
  refine z_iadd C dX7_secondsAtBeat_24 ?_
  refine z_topi (fun x1 hx1 => ?_)
  refine z_istore C [1, 2, 3, 4, 0] [(0, .ref (a 0)), (1, .int (iI ef)), (2, .int (iI eb)), (3, .int (iI b)), (4, .int (iI x1))] hl (by decide) rfl dX7_secondsAtBeat_25 (fun ls hl => ?_)
  refine z_aload_n C hl 0 rfl dX7_secondsAtBeat_27 ?_
  refine zg_X7_12 C hP dX7_secondsAtBeat_28 ?_
  refine z_iload C hl 4 rfl dX7_secondsAtBeat_31 ?_
  refine z_vSi C hP (As := [.int (iI x1)]) lk_X7_292 (c_X6_secondsTogether hI σ x1 hn hg (by omega)) (ob_set (by unfold zSet; omega)) rfl rfl rfl hl.1 rfl (Nat.le_of_ble_eq_true rfl) ⟨Nat.le_of_ble_eq_true rfl, Nat.le_of_ble_eq_true rfl⟩ ⟨Nat.zero_le _, Nat.zero_le _⟩ dX7_secondsAtBeat_33 ?_
  exact z_retSi C hr hlocks rfl (by subst_vars; rfl) dX7_secondsAtBeat_36

set_option maxRecDepth 20000 in
set_option maxHeartbeats 4000000 in
theorem c_X7_oneBeat {l : Launch} {D : va_G} {Y : Nat → ClassId} {a : Int → Nat} (hI : zI a) (σ : zS) (ef eb wh : Int) (r1 : R3 ef) (r2 : R3 eb) (r3 : R3 wh) (hth : ∀ r : Int, 0 ≤ r → r ≤ 3 → σ (40 + r) 0 = 0 ∨ σ (40 + r) 0 = 1) (hse : (0 ≤ σ 32 7 ∧ σ 32 7 ≤ 3) ∧ (0 ≤ σ 32 8 ∧ σ 32 8 ≤ 3)) (hrd : ∀ r : Int, 0 ≤ r → r ≤ 3 → (0 ≤ σ (40 + r) 1 ∧ σ (40 + r) 1 ≤ 20) ∧ (0 ≤ σ (40 + r) 2 ∧ σ (40 + r) 2 ≤ 10) ∧ (0 ≤ σ (40 + r) 3 ∧ σ (40 + r) 3 ≤ 9) ∧ (0 ≤ σ (40 + r) 4 ∧ σ (40 + r) 4 ≤ 50)) (hn : 1 ≤ σ 32 12 ∧ σ 32 12 ≤ 24) (hg : ∀ i : Int, 0 ≤ i → i < 24 → -1 ≤ σ 35 i ∧ σ 35 i ≤ 6) : zMet l yX7_oneBeat cX7_oneBeat 8 (some .int) 4 (zPc D Y a σ [.ref (a 0), .int (iI ef), .int (iI eb), .int (iI wh)]) (zSi (if σ (40 + σ 32 7) 0 = 1 ∧ σ (40 + σ 32 8) 0 = 1 then (if (0 ≤ ef ∧ ef ≤ 4) ∧ (0 ≤ eb ∧ eb ≤ 4) ∧ 0 ≤ wh ∧ wh ≤ 3 then (if wh = 0 then mArg 4 (mSAB σ ef eb) 6 else if wh = 1 then mSAB σ ef eb (mArg 4 (mSAB σ ef eb) 6) else if wh = 2 then σ 32 12 * (ef * σ (40 + σ 32 7) 1 - mTF σ ef (mArg 4 (mSAB σ ef eb) 6)) else σ 32 12 * (eb * σ (40 + σ 32 8) 1 - mTB σ eb (mArg 4 (mSAB σ ef eb) 6))) else -2) else -3)) zNo := by
  refine z_start rfl (Nat.le_of_ble_eq_true rfl) hI ?_
  intro p e s m below meth c ls C hr hlocks hl hP
  have hl : lv_has ls 8 [(0, .ref (a 0)), (1, .int (iI ef)), (2, .int (iI eb)), (3, .int (iI wh))] := hl
  have hrf := hrd (σ 32 7) (by omega) (by omega)
  have hrb := hrd (σ 32 8) (by omega) (by omega)
  refine z_aload_n C hl 0 rfl dX7_oneBeat_0 ?_
  refine z_vSi C hP (As := []) lk_X7_122 (c_X7_areSeated hI σ  hth hse) ob_0 rfl rfl rfl hl.1 rfl (Nat.le_of_ble_eq_true rfl) ⟨Nat.le_of_ble_eq_true rfl, Nat.le_of_ble_eq_true rfl⟩ ⟨Nat.zero_le _, Nat.zero_le _⟩ dX7_oneBeat_1 ?_
  by_cases b_1 : σ (40 + σ 32 7) 0 = 1 ∧ σ (40 + σ 32 8) 0 = 1
  · rw [show (if σ (40 + σ 32 7) 0 = 1 ∧ σ (40 + σ 32 8) 0 = 1 then (1 : Int) else 0) = 1 from if_pos b_1]
    refine z_ifT_ne C 10 dX7_oneBeat_4 (by decide) ⟨by decide, by decide⟩ (by decide) ?_
    refine z_iload_n C hl 1 rfl dX7_oneBeat_10 ?_
    refine z_sSi C hP (As := [.int (iI ef)]) lk_X7_115 (c_X7_isEffort hI σ ef r1) rfl hl.1 rfl (Nat.le_of_ble_eq_true rfl) ⟨Nat.le_of_ble_eq_true rfl, Nat.le_of_ble_eq_true rfl⟩ ⟨Nat.zero_le _, Nat.zero_le _⟩ dX7_oneBeat_11 ?_
    by_cases b_11 : 0 ≤ ef ∧ ef ≤ 4
    · rw [show (if 0 ≤ ef ∧ ef ≤ 4 then (1 : Int) else 0) = 1 from if_pos b_11]
      refine z_ifF_eq C 33 dX7_oneBeat_14 (by decide) ⟨by decide, by decide⟩ (by decide) ?_
      refine z_iload_n C hl 2 rfl dX7_oneBeat_17 ?_
      refine z_sSi C hP (As := [.int (iI eb)]) lk_X7_115 (c_X7_isEffort hI σ eb r2) rfl hl.1 rfl (Nat.le_of_ble_eq_true rfl) ⟨Nat.le_of_ble_eq_true rfl, Nat.le_of_ble_eq_true rfl⟩ ⟨Nat.zero_le _, Nat.zero_le _⟩ dX7_oneBeat_18 ?_
      by_cases b_18 : 0 ≤ eb ∧ eb ≤ 4
      · rw [show (if 0 ≤ eb ∧ eb ≤ 4 then (1 : Int) else 0) = 1 from if_pos b_18]
        refine z_ifF_eq C 33 dX7_oneBeat_21 (by decide) ⟨by decide, by decide⟩ (by decide) ?_
        refine z_iload_n C hl 3 rfl dX7_oneBeat_24 ?_
        refine z_iconst C dX7_oneBeat_25 ?_
        refine z_iconst C dX7_oneBeat_26 ?_
        refine z_sSi C hP (As := [.int (iI wh), .int (iI 0), .int (iI 3)]) lk_X7_52 (c_X7_isWithin hI σ wh 0 3 r3 ⟨by decide, by decide⟩ ⟨by decide, by decide⟩) rfl hl.1 rfl (Nat.le_of_ble_eq_true rfl) ⟨Nat.le_of_ble_eq_true rfl, Nat.le_of_ble_eq_true rfl⟩ ⟨Nat.zero_le _, Nat.zero_le _⟩ dX7_oneBeat_27 ?_
        by_cases b_27 : 0 ≤ wh ∧ wh ≤ 3
        · rw [show (if 0 ≤ wh ∧ wh ≤ 3 then (1 : Int) else 0) = 1 from if_pos b_27]
          refine z_ifT_ne C 36 dX7_oneBeat_30 (by decide) ⟨by decide, by decide⟩ (by decide) ?_
          refine z_iconst C dX7_oneBeat_36 ?_
          refine z_istore C [1, 2, 3, 4, 0] [(0, .ref (a 0)), (1, .int (iI ef)), (2, .int (iI eb)), (3, .int (iI wh)), (4, .int (iI 4))] hl (by decide) rfl dX7_oneBeat_37 (fun ls hl => ?_)
          refine z_aload_n C hl 0 rfl dX7_oneBeat_39 ?_
          refine z_iload_n C hl 1 rfl dX7_oneBeat_40 ?_
          refine z_iload_n C hl 2 rfl dX7_oneBeat_41 ?_
          refine z_iload C hl 4 rfl dX7_oneBeat_42 ?_
          refine z_vSi C hP (As := [.int (iI ef), .int (iI eb), .int (iI 4)]) lk_X7_188 (c_X7_secondsAtBeat hI σ ef eb 4 hse hrd hn hg (by omega) (by omega) (by omega)) ob_0 rfl rfl rfl hl.1 rfl (Nat.le_of_ble_eq_true rfl) ⟨Nat.le_of_ble_eq_true rfl, Nat.le_of_ble_eq_true rfl⟩ ⟨Nat.zero_le _, Nat.zero_le _⟩ dX7_oneBeat_44 ?_
          have hq4 := mSAB_b σ ef eb 4 hn
          refine z_topi (fun x1 hx1 => ?_)
          refine z_istore C [1, 2, 3, 4, 5, 0] [(0, .ref (a 0)), (1, .int (iI ef)), (2, .int (iI eb)), (3, .int (iI wh)), (4, .int (iI 4)), (5, .int (iI x1))] hl (by decide) rfl dX7_oneBeat_47 (fun ls hl => ?_)
          refine z_iconst C dX7_oneBeat_49 ?_
          refine z_istore C [1, 2, 3, 4, 5, 6, 0] [(0, .ref (a 0)), (1, .int (iI ef)), (2, .int (iI eb)), (3, .int (iI wh)), (4, .int (iI 4)), (5, .int (iI x1)), (6, .int (iI 5))] hl (by decide) rfl dX7_oneBeat_50 (fun ls hl => ?_)
          have L_52 : ∀ (n : Nat) (bt : Int) (fw : Int) (b : Int) (ls : Array Slot), (5 ≤ b ∧ b ≤ 11) → (bt = mArg 4 (mSAB σ ef eb) (b - 1 - 4).toNat) → (fw = mSAB σ ef eb bt) → (4 ≤ bt ∧ bt ≤ 10) → (0 ≤ fw ∧ fw ≤ 5784) → ((11 - b).toNat) < n → lv_has ls 8 [(0, .ref (a 0)), (1, .int (iI ef)), (2, .int (iI eb)), (3, .int (iI wh)), (4, .int (iI bt)), (5, .int (iI fw)), (6, .int (iI b))] → W p l e (zR 4) s m ([.ref (a 0), .int (iI ef), .int (iI eb), .int (iI wh)] : List Value).toArray below meth c s.heap [] 0 0 (MQ below (zSi (if σ (40 + σ 32 7) 0 = 1 ∧ σ (40 + σ 32 8) 0 = 1 then (if (0 ≤ ef ∧ ef ≤ 4) ∧ (0 ≤ eb ∧ eb ≤ 4) ∧ 0 ≤ wh ∧ wh ≤ 3 then (if wh = 0 then mArg 4 (mSAB σ ef eb) 6 else if wh = 1 then mSAB σ ef eb (mArg 4 (mSAB σ ef eb) 6) else if wh = 2 then σ 32 12 * (ef * σ (40 + σ 32 7) 1 - mTF σ ef (mArg 4 (mSAB σ ef eb) 6)) else σ 32 12 * (eb * σ (40 + σ 32 8) 1 - mTB σ eb (mArg 4 (mSAB σ ef eb) 6))) else -2) else -3)) ([.ref (a 0), .int (iI ef), .int (iI eb), .int (iI wh)] : List Value).toArray s 0 0 zNo) (F0 m 52 ls []) := by
            intro n
            induction n with
            | zero =>
              intros; omega
            | succ n ih_52 =>
              intro bt fw b ls ib iv iw it iz hm hl
              refine z_iload C hl 6 rfl dX7_oneBeat_52 ?_
              refine z_bipush C (by decide +kernel) dX7_oneBeat_54 ?_
              refine z_icmp_gt C 90 dX7_oneBeat_56 (by decide) ⟨by omega, by omega⟩ ⟨by omega, by omega⟩ (fun c_56 => ?_) (fun c_56 => ?_)
              · refine z_iload_n C hl 3 rfl dX7_oneBeat_90 ?_
                refine z_if_ne C 97 dX7_oneBeat_91 (by decide) ⟨by omega, by omega⟩ (fun c_91 => ?_) (fun c_91 => ?_)
                · refine z_iload_n C hl 3 rfl dX7_oneBeat_97 ?_
                  refine z_iconst C dX7_oneBeat_98 ?_
                  refine z_icmp_ne C 105 dX7_oneBeat_99 (by decide) ⟨by omega, by omega⟩ ⟨by omega, by omega⟩ (fun c_99 => ?_) (fun c_99 => ?_)
                  · refine z_iload_n C hl 3 rfl dX7_oneBeat_105 ?_
                    refine z_iconst C dX7_oneBeat_106 ?_
                    refine z_icmp_ne C 132 dX7_oneBeat_107 (by decide) ⟨by omega, by omega⟩ ⟨by omega, by omega⟩ (fun c_107 => ?_) (fun c_107 => ?_)
                    · refine z_aload_n C hl 0 rfl dX7_oneBeat_132 ?_
                      refine zg_X7_12 C hP dX7_oneBeat_133 ?_
                      refine zg32_X7_104 C hP dX7_oneBeat_136 ?_
                      refine z_aload_n C hl 0 rfl dX7_oneBeat_139 ?_
                      refine zg_X7_12 C hP dX7_oneBeat_140 ?_
                      refine z_vSr C hP (As := []) lk_X7_175 (c_X6_riderInBack hI σ  (by omega)) (ob_set (by unfold zSet; omega)) rfl rfl rfl hl.1 rfl (Nat.le_of_ble_eq_true rfl) ⟨Nat.le_of_ble_eq_true rfl, Nat.le_of_ble_eq_true rfl⟩ ⟨Nat.zero_le _, Nat.zero_le _⟩ dX7_oneBeat_143 ?_
                      refine z_iload_n C hl 2 rfl dX7_oneBeat_146 ?_
                      refine z_iload C hl 4 rfl dX7_oneBeat_147 ?_
                      refine z_vSi C hP (As := [.int (iI eb), .int (iI bt)]) lk_X7_192 (c_X4_losesAt hI σ (40 + σ 32 8) eb bt (by unfold zRid; omega) hrb.1 hrb.2.1 (by omega) (by omega)) (ob_rid (by unfold zRid; omega)) rfl rfl rfl hl.1 rfl (Nat.le_of_ble_eq_true rfl) ⟨Nat.le_of_ble_eq_true rfl, Nat.le_of_ble_eq_true rfl⟩ ⟨Nat.zero_le _, Nat.zero_le _⟩ dX7_oneBeat_149 ?_
                      refine z_imul C dX7_oneBeat_152 ?_
                      exact z_retSi C hr hlocks rfl (by have hbb : b = 11 := (by omega); subst hbb; rw [if_pos b_1, if_pos (by omega)]; first | (rw [if_pos (by omega), iv]; rfl) | (rw [if_neg (by omega), if_pos (by omega), iw, iv]; rfl) | (rw [if_neg (by omega), if_neg (by omega), if_pos (by omega), iv]; rfl) | (rw [if_neg (by omega), if_neg (by omega), if_neg (by omega), iv]; rfl)) dX7_oneBeat_153
                    · refine z_aload_n C hl 0 rfl dX7_oneBeat_110 ?_
                      refine zg_X7_12 C hP dX7_oneBeat_111 ?_
                      refine zg32_X7_104 C hP dX7_oneBeat_114 ?_
                      refine z_aload_n C hl 0 rfl dX7_oneBeat_117 ?_
                      refine zg_X7_12 C hP dX7_oneBeat_118 ?_
                      refine z_vSr C hP (As := []) lk_X7_171 (c_X6_riderInFront hI σ  (by omega)) (ob_set (by unfold zSet; omega)) rfl rfl rfl hl.1 rfl (Nat.le_of_ble_eq_true rfl) ⟨Nat.le_of_ble_eq_true rfl, Nat.le_of_ble_eq_true rfl⟩ ⟨Nat.zero_le _, Nat.zero_le _⟩ dX7_oneBeat_121 ?_
                      refine z_iload_n C hl 1 rfl dX7_oneBeat_124 ?_
                      refine z_iload C hl 4 rfl dX7_oneBeat_125 ?_
                      refine z_vSi C hP (As := [.int (iI ef), .int (iI bt)]) lk_X7_192 (c_X4_losesAt hI σ (40 + σ 32 7) ef bt (by unfold zRid; omega) hrf.1 hrf.2.1 (by omega) (by omega)) (ob_rid (by unfold zRid; omega)) rfl rfl rfl hl.1 rfl (Nat.le_of_ble_eq_true rfl) ⟨Nat.le_of_ble_eq_true rfl, Nat.le_of_ble_eq_true rfl⟩ ⟨Nat.zero_le _, Nat.zero_le _⟩ dX7_oneBeat_127 ?_
                      refine z_imul C dX7_oneBeat_130 ?_
                      exact z_retSi C hr hlocks rfl (by have hbb : b = 11 := (by omega); subst hbb; rw [if_pos b_1, if_pos (by omega)]; first | (rw [if_pos (by omega), iv]; rfl) | (rw [if_neg (by omega), if_pos (by omega), iw, iv]; rfl) | (rw [if_neg (by omega), if_neg (by omega), if_pos (by omega), iv]; rfl) | (rw [if_neg (by omega), if_neg (by omega), if_neg (by omega), iv]; rfl)) dX7_oneBeat_131
                  · refine z_iload C hl 5 rfl dX7_oneBeat_102 ?_
                    exact z_retSi C hr hlocks rfl (by have hbb : b = 11 := (by omega); subst hbb; rw [if_pos b_1, if_pos (by omega)]; first | (rw [if_pos (by omega), iv]; rfl) | (rw [if_neg (by omega), if_pos (by omega), iw, iv]; rfl) | (rw [if_neg (by omega), if_neg (by omega), if_pos (by omega), iv]; rfl) | (rw [if_neg (by omega), if_neg (by omega), if_neg (by omega), iv]; rfl)) dX7_oneBeat_104
                · refine z_iload C hl 4 rfl dX7_oneBeat_94 ?_
                  exact z_retSi C hr hlocks rfl (by have hbb : b = 11 := (by omega); subst hbb; rw [if_pos b_1, if_pos (by omega)]; first | (rw [if_pos (by omega), iv]; rfl) | (rw [if_neg (by omega), if_pos (by omega), iw, iv]; rfl) | (rw [if_neg (by omega), if_neg (by omega), if_pos (by omega), iv]; rfl) | (rw [if_neg (by omega), if_neg (by omega), if_neg (by omega), iv]; rfl)) dX7_oneBeat_96
              · refine z_aload_n C hl 0 rfl dX7_oneBeat_59 ?_
                refine z_iload_n C hl 1 rfl dX7_oneBeat_60 ?_
                refine z_iload_n C hl 2 rfl dX7_oneBeat_61 ?_
                refine z_iload C hl 6 rfl dX7_oneBeat_62 ?_
                refine z_vSi C hP (As := [.int (iI ef), .int (iI eb), .int (iI b)]) lk_X7_188 (c_X7_secondsAtBeat hI σ ef eb b hse hrd hn hg (by omega) (by omega) (by omega)) ob_0 rfl rfl rfl hl.1 rfl (Nat.le_of_ble_eq_true rfl) ⟨Nat.le_of_ble_eq_true rfl, Nat.le_of_ble_eq_true rfl⟩ ⟨Nat.zero_le _, Nat.zero_le _⟩ dX7_oneBeat_64 ?_
                have hqb := mSAB_b σ ef eb b hn
                refine z_topi (fun x2 hx2 => ?_)
                refine z_istore C [1, 2, 3, 4, 5, 6, 7, 0] [(0, .ref (a 0)), (1, .int (iI ef)), (2, .int (iI eb)), (3, .int (iI wh)), (4, .int (iI bt)), (5, .int (iI fw)), (6, .int (iI b)), (7, .int (iI x2))] hl (by decide) rfl dX7_oneBeat_67 (fun ls hl => ?_)
                refine z_iload C hl 7 rfl dX7_oneBeat_69 ?_
                refine z_iload C hl 5 rfl dX7_oneBeat_71 ?_
                refine z_icmp_ge C 84 dX7_oneBeat_73 (by decide) ⟨by omega, by omega⟩ ⟨by omega, by omega⟩ (fun c_73 => ?_) (fun c_73 => ?_)
                · refine z_iinc C 6 [1, 2, 3, 4, 5, 6, 0, 7] [(0, .ref (a 0)), (1, .int (iI ef)), (2, .int (iI eb)), (3, .int (iI wh)), (4, .int (iI bt)), (5, .int (iI fw)), (6, .int (iI (b + 1))), (7, .int (iI x2))] hl rfl (by decide) rfl dX7_oneBeat_84 (fun ls hl => ?_)
                  refine z_goto C 52 dX7_oneBeat_87 (by decide) ?_
                  exact ih_52 bt fw (b + 1) ls (by omega) (by have hst := mArg_s 4 (mSAB σ ef eb) (b := b - 1) (by omega); rw [show b - 1 + 1 = b from (by omega)] at hst; rw [show b + 1 - 1 - 4 = b - 4 from (by omega), hst, ← iv, ← iw]; first | (rw [if_pos (by omega)]; done) | (rw [if_neg (by omega)]; assumption) | (rw [if_neg (by omega)])) (by first | assumption | omega) (by omega) (by omega) (by omega) (lv_sub hl [0, 1, 2, 3, 4, 5, 6] rfl)
                · refine z_iload C hl 7 rfl dX7_oneBeat_76 ?_
                  refine z_istore C [1, 2, 3, 4, 5, 0, 6, 7] [(0, .ref (a 0)), (1, .int (iI ef)), (2, .int (iI eb)), (3, .int (iI wh)), (4, .int (iI bt)), (5, .int (iI x2)), (6, .int (iI b)), (7, .int (iI x2))] hl (by decide) rfl dX7_oneBeat_78 (fun ls hl => ?_)
                  refine z_iload C hl 6 rfl dX7_oneBeat_80 ?_
                  refine z_istore C [1, 2, 3, 4, 0, 5, 6, 7] [(0, .ref (a 0)), (1, .int (iI ef)), (2, .int (iI eb)), (3, .int (iI wh)), (4, .int (iI b)), (5, .int (iI x2)), (6, .int (iI b)), (7, .int (iI x2))] hl (by decide) rfl dX7_oneBeat_82 (fun ls hl => ?_)
                  refine z_iinc C 6 [1, 2, 3, 4, 5, 6, 0, 7] [(0, .ref (a 0)), (1, .int (iI ef)), (2, .int (iI eb)), (3, .int (iI wh)), (4, .int (iI b)), (5, .int (iI x2)), (6, .int (iI (b + 1))), (7, .int (iI x2))] hl rfl (by decide) rfl dX7_oneBeat_84 (fun ls hl => ?_)
                  refine z_goto C 52 dX7_oneBeat_87 (by decide) ?_
                  exact ih_52 b x2 (b + 1) ls (by omega) (by have hst := mArg_s 4 (mSAB σ ef eb) (b := b - 1) (by omega); rw [show b - 1 + 1 = b from (by omega)] at hst; rw [show b + 1 - 1 - 4 = b - 4 from (by omega), hst, ← iv, ← iw]; first | (rw [if_pos (by omega)]; done) | (rw [if_neg (by omega)]; assumption) | (rw [if_neg (by omega)])) (by first | assumption | omega) (by omega) (by omega) (by omega) (lv_sub hl [0, 1, 2, 3, 4, 5, 6] rfl)
          exact L_52 _ 4 x1 5 ls (by omega) (by rfl) (by omega) (by omega) (by omega) (Nat.lt_succ_self _) (lv_sub hl [0, 1, 2, 3, 4, 5, 6] rfl)
        · rw [show (if 0 ≤ wh ∧ wh ≤ 3 then (1 : Int) else 0) = 0 from if_neg b_27]
          refine z_ifF_ne C 36 dX7_oneBeat_30 (by decide) ⟨by decide, by decide⟩ (by decide) ?_
          refine z_bipush C (by decide +kernel) dX7_oneBeat_33 ?_
          exact z_retSi C hr hlocks rfl (by rw [if_pos b_1, if_neg (by omega)]) dX7_oneBeat_35
      · rw [show (if 0 ≤ eb ∧ eb ≤ 4 then (1 : Int) else 0) = 0 from if_neg b_18]
        refine z_ifT_eq C 33 dX7_oneBeat_21 (by decide) ⟨by decide, by decide⟩ (by decide) ?_
        refine z_bipush C (by decide +kernel) dX7_oneBeat_33 ?_
        exact z_retSi C hr hlocks rfl (by rw [if_pos b_1, if_neg (by omega)]) dX7_oneBeat_35
    · rw [show (if 0 ≤ ef ∧ ef ≤ 4 then (1 : Int) else 0) = 0 from if_neg b_11]
      refine z_ifT_eq C 33 dX7_oneBeat_14 (by decide) ⟨by decide, by decide⟩ (by decide) ?_
      refine z_bipush C (by decide +kernel) dX7_oneBeat_33 ?_
      exact z_retSi C hr hlocks rfl (by rw [if_pos b_1, if_neg (by omega)]) dX7_oneBeat_35
  · rw [show (if σ (40 + σ 32 7) 0 = 1 ∧ σ (40 + σ 32 8) 0 = 1 then (1 : Int) else 0) = 0 from if_neg b_1]
    refine z_ifF_ne C 10 dX7_oneBeat_4 (by decide) ⟨by decide, by decide⟩ (by decide) ?_
    refine z_bipush C (by decide +kernel) dX7_oneBeat_7 ?_
    exact z_retSi C hr hlocks rfl (by rw [if_neg b_1]) dX7_oneBeat_9
