def mPop (n : Int) : Int := n % 2 + n / 2 % 2 + n / 4 % 2 + n / 8 % 2 + n / 16 % 2 + n / 32 % 2 + n / 64 % 2 + n / 128 % 2 + n / 256 % 2 + n / 512 % 2 + n / 1024 % 2 + n / 2048 % 2
def mSum (f : Int → Int) : Nat → Int
  | 0 => 0
  | n + 1 => mSum f n + f (n : Int)
theorem mSum_s (f : Int → Int) {i : Int} (h : 0 ≤ i) : mSum f (i + 1).toNat = mSum f i.toNat + f i := by
  have e : (i + 1).toNat = i.toNat + 1 := by omega
  rw [e]
  show mSum f i.toNat + f (i.toNat : Int) = _
  rw [Int.toNat_of_nonneg h]
theorem mSum_c {f g : Int → Int} : ∀ {n : Nat}, (∀ i : Int, 0 ≤ i → i < n → f i = g i) → mSum f n = mSum g n
  | 0, _ => rfl
  | n + 1, h => by
    show mSum f n + f n = mSum g n + g n
    rw [mSum_c (n := n) (fun i h1 h2 => h i h1 (by omega)), h n (by omega) (by omega)]
theorem mSum_b {f : Int → Int} {A : Int} : ∀ {n : Nat}, (∀ i : Int, 0 ≤ i → i < n → 0 ≤ f i ∧ f i ≤ A) → 0 ≤ mSum f n ∧ mSum f n ≤ n * A
  | 0, _ => ⟨Int.le_refl _, by simp [mSum]⟩
  | n + 1, h => by
    have h1 := mSum_b (n := n) (fun i h1 h2 => h i h1 (by omega))
    have h2 := h n (by omega) (by omega)
    have e : ((n + 1 : Nat) : Int) * A = n * A + A := by rw [Int.natCast_add, Int.add_mul]; simp
    rw [e]
    show 0 ≤ mSum f n + f n ∧ mSum f n + f n ≤ _
    omega
def mFWg (g : Int → Int) (n : Int) : Nat → Int → Int
  | 0, _ => if n = 0 then 0 else -6
  | k + 1, i => if n ≤ i then (if n = 0 then 0 else -6) else if 24 ≤ i ∨ mSort (g i) < 0 then i else mFWg g n k (i + 1)
theorem mFWg_s (g : Int → Int) (n : Int) {i : Int} (h : 0 ≤ i ∧ i < 110) : mFWg g n (110 - i).toNat i = if n ≤ i then (if n = 0 then 0 else -6) else if 24 ≤ i ∨ mSort (g i) < 0 then i else mFWg g n (110 - (i + 1)).toNat (i + 1) := by
  have e : (110 - i).toNat = (110 - (i + 1)).toNat + 1 := by omega
  rw [e]
  rfl

set_option maxRecDepth 20000 in
set_option maxHeartbeats 4000000 in
theorem c_J6_bitCount_0f7a4_0 {l : Launch} {D : va_G} {Y : Nat → ClassId} {a : Int → Nat} (hI : zI a) (σ : zS)  : zMet l yJ6_bitCount_0f7a4 cJ6_bitCount_0f7a4 1 (some .int) 0 (zPc D Y a σ [.int (iI 0)]) (zSi (mPop 0)) zNo := by
  refine z_start rfl (Nat.le_of_ble_eq_true rfl) hI ?_
  intro p e s m below meth c ls C hr hlocks hl hP
  have hl : lv_has ls 1 [(0, .int (iI 0))] := hl
  refine z_iload_n C hl 0 rfl dJ6_bitCount_0f7a4_0 ?_
  refine z_iload_n C hl 0 rfl dJ6_bitCount_0f7a4_1 ?_
  refine z_iconst C dJ6_bitCount_0f7a4_2 ?_
  refine z_iushr C 0 (by decide +kernel) dJ6_bitCount_0f7a4_3 ?_
  refine z_ldcw C (z := 1431655765) wd_148 (by decide +kernel) dJ6_bitCount_0f7a4_4 ?_
  refine z_iand C 0 (by decide +kernel) dJ6_bitCount_0f7a4_7 ?_
  refine z_isub C dJ6_bitCount_0f7a4_8 ?_
  refine z_istore_n C [0] [(0, .int (iI 0))] hl (by decide) rfl dJ6_bitCount_0f7a4_9 (fun ls hl => ?_)
  refine z_iload_n C hl 0 rfl dJ6_bitCount_0f7a4_10 ?_
  refine z_ldcw C (z := 858993459) wd_149 (by decide +kernel) dJ6_bitCount_0f7a4_11 ?_
  refine z_iand C 0 (by decide +kernel) dJ6_bitCount_0f7a4_14 ?_
  refine z_iload_n C hl 0 rfl dJ6_bitCount_0f7a4_15 ?_
  refine z_iconst C dJ6_bitCount_0f7a4_16 ?_
  refine z_iushr C 0 (by decide +kernel) dJ6_bitCount_0f7a4_17 ?_
  refine z_ldcw C (z := 858993459) wd_149 (by decide +kernel) dJ6_bitCount_0f7a4_18 ?_
  refine z_iand C 0 (by decide +kernel) dJ6_bitCount_0f7a4_21 ?_
  refine z_iadd C dJ6_bitCount_0f7a4_22 ?_
  refine z_istore_n C [0] [(0, .int (iI 0))] hl (by decide) rfl dJ6_bitCount_0f7a4_23 (fun ls hl => ?_)
  refine z_iload_n C hl 0 rfl dJ6_bitCount_0f7a4_24 ?_
  refine z_iload_n C hl 0 rfl dJ6_bitCount_0f7a4_25 ?_
  refine z_iconst C dJ6_bitCount_0f7a4_26 ?_
  refine z_iushr C 0 (by decide +kernel) dJ6_bitCount_0f7a4_27 ?_
  refine z_iadd C dJ6_bitCount_0f7a4_28 ?_
  refine z_ldcw C (z := 252645135) wd_150 (by decide +kernel) dJ6_bitCount_0f7a4_29 ?_
  refine z_iand C 0 (by decide +kernel) dJ6_bitCount_0f7a4_32 ?_
  refine z_istore_n C [0] [(0, .int (iI 0))] hl (by decide) rfl dJ6_bitCount_0f7a4_33 (fun ls hl => ?_)
  refine z_iload_n C hl 0 rfl dJ6_bitCount_0f7a4_34 ?_
  refine z_iload_n C hl 0 rfl dJ6_bitCount_0f7a4_35 ?_
  refine z_bipush C (by decide +kernel) dJ6_bitCount_0f7a4_36 ?_
  refine z_iushr C 0 (by decide +kernel) dJ6_bitCount_0f7a4_38 ?_
  refine z_iadd C dJ6_bitCount_0f7a4_39 ?_
  refine z_istore_n C [0] [(0, .int (iI 0))] hl (by decide) rfl dJ6_bitCount_0f7a4_40 (fun ls hl => ?_)
  refine z_iload_n C hl 0 rfl dJ6_bitCount_0f7a4_41 ?_
  refine z_iload_n C hl 0 rfl dJ6_bitCount_0f7a4_42 ?_
  refine z_bipush C (by decide +kernel) dJ6_bitCount_0f7a4_43 ?_
  refine z_iushr C 0 (by decide +kernel) dJ6_bitCount_0f7a4_45 ?_
  refine z_iadd C dJ6_bitCount_0f7a4_46 ?_
  refine z_istore_n C [0] [(0, .int (iI 0))] hl (by decide) rfl dJ6_bitCount_0f7a4_47 (fun ls hl => ?_)
  refine z_iload_n C hl 0 rfl dJ6_bitCount_0f7a4_48 ?_
  refine z_bipush C (by decide +kernel) dJ6_bitCount_0f7a4_49 ?_
  refine z_iand C 0 (by decide +kernel) dJ6_bitCount_0f7a4_51 ?_
  exact z_retSi C hr hlocks rfl (by decide +kernel) dJ6_bitCount_0f7a4_52

set_option maxRecDepth 20000 in
set_option maxHeartbeats 4000000 in
theorem c_J6_bitCount_0f7a4_1 {l : Launch} {D : va_G} {Y : Nat → ClassId} {a : Int → Nat} (hI : zI a) (σ : zS)  : zMet l yJ6_bitCount_0f7a4 cJ6_bitCount_0f7a4 1 (some .int) 0 (zPc D Y a σ [.int (iI 1)]) (zSi (mPop 1)) zNo := by
  refine z_start rfl (Nat.le_of_ble_eq_true rfl) hI ?_
  intro p e s m below meth c ls C hr hlocks hl hP
  have hl : lv_has ls 1 [(0, .int (iI 1))] := hl
  refine z_iload_n C hl 0 rfl dJ6_bitCount_0f7a4_0 ?_
  refine z_iload_n C hl 0 rfl dJ6_bitCount_0f7a4_1 ?_
  refine z_iconst C dJ6_bitCount_0f7a4_2 ?_
  refine z_iushr C 0 (by decide +kernel) dJ6_bitCount_0f7a4_3 ?_
  refine z_ldcw C (z := 1431655765) wd_148 (by decide +kernel) dJ6_bitCount_0f7a4_4 ?_
  refine z_iand C 0 (by decide +kernel) dJ6_bitCount_0f7a4_7 ?_
  refine z_isub C dJ6_bitCount_0f7a4_8 ?_
  refine z_istore_n C [0] [(0, .int (iI 1))] hl (by decide) rfl dJ6_bitCount_0f7a4_9 (fun ls hl => ?_)
  refine z_iload_n C hl 0 rfl dJ6_bitCount_0f7a4_10 ?_
  refine z_ldcw C (z := 858993459) wd_149 (by decide +kernel) dJ6_bitCount_0f7a4_11 ?_
  refine z_iand C 1 (by decide +kernel) dJ6_bitCount_0f7a4_14 ?_
  refine z_iload_n C hl 0 rfl dJ6_bitCount_0f7a4_15 ?_
  refine z_iconst C dJ6_bitCount_0f7a4_16 ?_
  refine z_iushr C 0 (by decide +kernel) dJ6_bitCount_0f7a4_17 ?_
  refine z_ldcw C (z := 858993459) wd_149 (by decide +kernel) dJ6_bitCount_0f7a4_18 ?_
  refine z_iand C 0 (by decide +kernel) dJ6_bitCount_0f7a4_21 ?_
  refine z_iadd C dJ6_bitCount_0f7a4_22 ?_
  refine z_istore_n C [0] [(0, .int (iI 1))] hl (by decide) rfl dJ6_bitCount_0f7a4_23 (fun ls hl => ?_)
  refine z_iload_n C hl 0 rfl dJ6_bitCount_0f7a4_24 ?_
  refine z_iload_n C hl 0 rfl dJ6_bitCount_0f7a4_25 ?_
  refine z_iconst C dJ6_bitCount_0f7a4_26 ?_
  refine z_iushr C 0 (by decide +kernel) dJ6_bitCount_0f7a4_27 ?_
  refine z_iadd C dJ6_bitCount_0f7a4_28 ?_
  refine z_ldcw C (z := 252645135) wd_150 (by decide +kernel) dJ6_bitCount_0f7a4_29 ?_
  refine z_iand C 1 (by decide +kernel) dJ6_bitCount_0f7a4_32 ?_
  refine z_istore_n C [0] [(0, .int (iI 1))] hl (by decide) rfl dJ6_bitCount_0f7a4_33 (fun ls hl => ?_)
  refine z_iload_n C hl 0 rfl dJ6_bitCount_0f7a4_34 ?_
  refine z_iload_n C hl 0 rfl dJ6_bitCount_0f7a4_35 ?_
  refine z_bipush C (by decide +kernel) dJ6_bitCount_0f7a4_36 ?_
  refine z_iushr C 0 (by decide +kernel) dJ6_bitCount_0f7a4_38 ?_
  refine z_iadd C dJ6_bitCount_0f7a4_39 ?_
  refine z_istore_n C [0] [(0, .int (iI 1))] hl (by decide) rfl dJ6_bitCount_0f7a4_40 (fun ls hl => ?_)
  refine z_iload_n C hl 0 rfl dJ6_bitCount_0f7a4_41 ?_
  refine z_iload_n C hl 0 rfl dJ6_bitCount_0f7a4_42 ?_
  refine z_bipush C (by decide +kernel) dJ6_bitCount_0f7a4_43 ?_
  refine z_iushr C 0 (by decide +kernel) dJ6_bitCount_0f7a4_45 ?_
  refine z_iadd C dJ6_bitCount_0f7a4_46 ?_
  refine z_istore_n C [0] [(0, .int (iI 1))] hl (by decide) rfl dJ6_bitCount_0f7a4_47 (fun ls hl => ?_)
  refine z_iload_n C hl 0 rfl dJ6_bitCount_0f7a4_48 ?_
  refine z_bipush C (by decide +kernel) dJ6_bitCount_0f7a4_49 ?_
  refine z_iand C 1 (by decide +kernel) dJ6_bitCount_0f7a4_51 ?_
  exact z_retSi C hr hlocks rfl (by decide +kernel) dJ6_bitCount_0f7a4_52

set_option maxRecDepth 20000 in
set_option maxHeartbeats 4000000 in
theorem c_J6_bitCount_0f7a4_2 {l : Launch} {D : va_G} {Y : Nat → ClassId} {a : Int → Nat} (hI : zI a) (σ : zS)  : zMet l yJ6_bitCount_0f7a4 cJ6_bitCount_0f7a4 1 (some .int) 0 (zPc D Y a σ [.int (iI 2)]) (zSi (mPop 2)) zNo := by
  refine z_start rfl (Nat.le_of_ble_eq_true rfl) hI ?_
  intro p e s m below meth c ls C hr hlocks hl hP
  have hl : lv_has ls 1 [(0, .int (iI 2))] := hl
  refine z_iload_n C hl 0 rfl dJ6_bitCount_0f7a4_0 ?_
  refine z_iload_n C hl 0 rfl dJ6_bitCount_0f7a4_1 ?_
  refine z_iconst C dJ6_bitCount_0f7a4_2 ?_
  refine z_iushr C 1 (by decide +kernel) dJ6_bitCount_0f7a4_3 ?_
  refine z_ldcw C (z := 1431655765) wd_148 (by decide +kernel) dJ6_bitCount_0f7a4_4 ?_
  refine z_iand C 1 (by decide +kernel) dJ6_bitCount_0f7a4_7 ?_
  refine z_isub C dJ6_bitCount_0f7a4_8 ?_
  refine z_istore_n C [0] [(0, .int (iI 1))] hl (by decide) rfl dJ6_bitCount_0f7a4_9 (fun ls hl => ?_)
  refine z_iload_n C hl 0 rfl dJ6_bitCount_0f7a4_10 ?_
  refine z_ldcw C (z := 858993459) wd_149 (by decide +kernel) dJ6_bitCount_0f7a4_11 ?_
  refine z_iand C 1 (by decide +kernel) dJ6_bitCount_0f7a4_14 ?_
  refine z_iload_n C hl 0 rfl dJ6_bitCount_0f7a4_15 ?_
  refine z_iconst C dJ6_bitCount_0f7a4_16 ?_
  refine z_iushr C 0 (by decide +kernel) dJ6_bitCount_0f7a4_17 ?_
  refine z_ldcw C (z := 858993459) wd_149 (by decide +kernel) dJ6_bitCount_0f7a4_18 ?_
  refine z_iand C 0 (by decide +kernel) dJ6_bitCount_0f7a4_21 ?_
  refine z_iadd C dJ6_bitCount_0f7a4_22 ?_
  refine z_istore_n C [0] [(0, .int (iI 1))] hl (by decide) rfl dJ6_bitCount_0f7a4_23 (fun ls hl => ?_)
  refine z_iload_n C hl 0 rfl dJ6_bitCount_0f7a4_24 ?_
  refine z_iload_n C hl 0 rfl dJ6_bitCount_0f7a4_25 ?_
  refine z_iconst C dJ6_bitCount_0f7a4_26 ?_
  refine z_iushr C 0 (by decide +kernel) dJ6_bitCount_0f7a4_27 ?_
  refine z_iadd C dJ6_bitCount_0f7a4_28 ?_
  refine z_ldcw C (z := 252645135) wd_150 (by decide +kernel) dJ6_bitCount_0f7a4_29 ?_
  refine z_iand C 1 (by decide +kernel) dJ6_bitCount_0f7a4_32 ?_
  refine z_istore_n C [0] [(0, .int (iI 1))] hl (by decide) rfl dJ6_bitCount_0f7a4_33 (fun ls hl => ?_)
  refine z_iload_n C hl 0 rfl dJ6_bitCount_0f7a4_34 ?_
  refine z_iload_n C hl 0 rfl dJ6_bitCount_0f7a4_35 ?_
  refine z_bipush C (by decide +kernel) dJ6_bitCount_0f7a4_36 ?_
  refine z_iushr C 0 (by decide +kernel) dJ6_bitCount_0f7a4_38 ?_
  refine z_iadd C dJ6_bitCount_0f7a4_39 ?_
  refine z_istore_n C [0] [(0, .int (iI 1))] hl (by decide) rfl dJ6_bitCount_0f7a4_40 (fun ls hl => ?_)
  refine z_iload_n C hl 0 rfl dJ6_bitCount_0f7a4_41 ?_
  refine z_iload_n C hl 0 rfl dJ6_bitCount_0f7a4_42 ?_
  refine z_bipush C (by decide +kernel) dJ6_bitCount_0f7a4_43 ?_
  refine z_iushr C 0 (by decide +kernel) dJ6_bitCount_0f7a4_45 ?_
  refine z_iadd C dJ6_bitCount_0f7a4_46 ?_
  refine z_istore_n C [0] [(0, .int (iI 1))] hl (by decide) rfl dJ6_bitCount_0f7a4_47 (fun ls hl => ?_)
  refine z_iload_n C hl 0 rfl dJ6_bitCount_0f7a4_48 ?_
  refine z_bipush C (by decide +kernel) dJ6_bitCount_0f7a4_49 ?_
  refine z_iand C 1 (by decide +kernel) dJ6_bitCount_0f7a4_51 ?_
  exact z_retSi C hr hlocks rfl (by decide +kernel) dJ6_bitCount_0f7a4_52

set_option maxRecDepth 20000 in
set_option maxHeartbeats 4000000 in
theorem c_J6_bitCount_0f7a4_3 {l : Launch} {D : va_G} {Y : Nat → ClassId} {a : Int → Nat} (hI : zI a) (σ : zS)  : zMet l yJ6_bitCount_0f7a4 cJ6_bitCount_0f7a4 1 (some .int) 0 (zPc D Y a σ [.int (iI 3)]) (zSi (mPop 3)) zNo := by
  refine z_start rfl (Nat.le_of_ble_eq_true rfl) hI ?_
  intro p e s m below meth c ls C hr hlocks hl hP
  have hl : lv_has ls 1 [(0, .int (iI 3))] := hl
  refine z_iload_n C hl 0 rfl dJ6_bitCount_0f7a4_0 ?_
  refine z_iload_n C hl 0 rfl dJ6_bitCount_0f7a4_1 ?_
  refine z_iconst C dJ6_bitCount_0f7a4_2 ?_
  refine z_iushr C 1 (by decide +kernel) dJ6_bitCount_0f7a4_3 ?_
  refine z_ldcw C (z := 1431655765) wd_148 (by decide +kernel) dJ6_bitCount_0f7a4_4 ?_
  refine z_iand C 1 (by decide +kernel) dJ6_bitCount_0f7a4_7 ?_
  refine z_isub C dJ6_bitCount_0f7a4_8 ?_
  refine z_istore_n C [0] [(0, .int (iI 2))] hl (by decide) rfl dJ6_bitCount_0f7a4_9 (fun ls hl => ?_)
  refine z_iload_n C hl 0 rfl dJ6_bitCount_0f7a4_10 ?_
  refine z_ldcw C (z := 858993459) wd_149 (by decide +kernel) dJ6_bitCount_0f7a4_11 ?_
  refine z_iand C 2 (by decide +kernel) dJ6_bitCount_0f7a4_14 ?_
  refine z_iload_n C hl 0 rfl dJ6_bitCount_0f7a4_15 ?_
  refine z_iconst C dJ6_bitCount_0f7a4_16 ?_
  refine z_iushr C 0 (by decide +kernel) dJ6_bitCount_0f7a4_17 ?_
  refine z_ldcw C (z := 858993459) wd_149 (by decide +kernel) dJ6_bitCount_0f7a4_18 ?_
  refine z_iand C 0 (by decide +kernel) dJ6_bitCount_0f7a4_21 ?_
  refine z_iadd C dJ6_bitCount_0f7a4_22 ?_
  refine z_istore_n C [0] [(0, .int (iI 2))] hl (by decide) rfl dJ6_bitCount_0f7a4_23 (fun ls hl => ?_)
  refine z_iload_n C hl 0 rfl dJ6_bitCount_0f7a4_24 ?_
  refine z_iload_n C hl 0 rfl dJ6_bitCount_0f7a4_25 ?_
  refine z_iconst C dJ6_bitCount_0f7a4_26 ?_
  refine z_iushr C 0 (by decide +kernel) dJ6_bitCount_0f7a4_27 ?_
  refine z_iadd C dJ6_bitCount_0f7a4_28 ?_
  refine z_ldcw C (z := 252645135) wd_150 (by decide +kernel) dJ6_bitCount_0f7a4_29 ?_
  refine z_iand C 2 (by decide +kernel) dJ6_bitCount_0f7a4_32 ?_
  refine z_istore_n C [0] [(0, .int (iI 2))] hl (by decide) rfl dJ6_bitCount_0f7a4_33 (fun ls hl => ?_)
  refine z_iload_n C hl 0 rfl dJ6_bitCount_0f7a4_34 ?_
  refine z_iload_n C hl 0 rfl dJ6_bitCount_0f7a4_35 ?_
  refine z_bipush C (by decide +kernel) dJ6_bitCount_0f7a4_36 ?_
  refine z_iushr C 0 (by decide +kernel) dJ6_bitCount_0f7a4_38 ?_
  refine z_iadd C dJ6_bitCount_0f7a4_39 ?_
  refine z_istore_n C [0] [(0, .int (iI 2))] hl (by decide) rfl dJ6_bitCount_0f7a4_40 (fun ls hl => ?_)
  refine z_iload_n C hl 0 rfl dJ6_bitCount_0f7a4_41 ?_
  refine z_iload_n C hl 0 rfl dJ6_bitCount_0f7a4_42 ?_
  refine z_bipush C (by decide +kernel) dJ6_bitCount_0f7a4_43 ?_
  refine z_iushr C 0 (by decide +kernel) dJ6_bitCount_0f7a4_45 ?_
  refine z_iadd C dJ6_bitCount_0f7a4_46 ?_
  refine z_istore_n C [0] [(0, .int (iI 2))] hl (by decide) rfl dJ6_bitCount_0f7a4_47 (fun ls hl => ?_)
  refine z_iload_n C hl 0 rfl dJ6_bitCount_0f7a4_48 ?_
  refine z_bipush C (by decide +kernel) dJ6_bitCount_0f7a4_49 ?_
  refine z_iand C 2 (by decide +kernel) dJ6_bitCount_0f7a4_51 ?_
  exact z_retSi C hr hlocks rfl (by decide +kernel) dJ6_bitCount_0f7a4_52

set_option maxRecDepth 20000 in
set_option maxHeartbeats 4000000 in
theorem c_J6_bitCount_0f7a4_4 {l : Launch} {D : va_G} {Y : Nat → ClassId} {a : Int → Nat} (hI : zI a) (σ : zS)  : zMet l yJ6_bitCount_0f7a4 cJ6_bitCount_0f7a4 1 (some .int) 0 (zPc D Y a σ [.int (iI 4)]) (zSi (mPop 4)) zNo := by
  refine z_start rfl (Nat.le_of_ble_eq_true rfl) hI ?_
  intro p e s m below meth c ls C hr hlocks hl hP
  have hl : lv_has ls 1 [(0, .int (iI 4))] := hl
  refine z_iload_n C hl 0 rfl dJ6_bitCount_0f7a4_0 ?_
  refine z_iload_n C hl 0 rfl dJ6_bitCount_0f7a4_1 ?_
  refine z_iconst C dJ6_bitCount_0f7a4_2 ?_
  refine z_iushr C 2 (by decide +kernel) dJ6_bitCount_0f7a4_3 ?_
  refine z_ldcw C (z := 1431655765) wd_148 (by decide +kernel) dJ6_bitCount_0f7a4_4 ?_
  refine z_iand C 0 (by decide +kernel) dJ6_bitCount_0f7a4_7 ?_
  refine z_isub C dJ6_bitCount_0f7a4_8 ?_
  refine z_istore_n C [0] [(0, .int (iI 4))] hl (by decide) rfl dJ6_bitCount_0f7a4_9 (fun ls hl => ?_)
  refine z_iload_n C hl 0 rfl dJ6_bitCount_0f7a4_10 ?_
  refine z_ldcw C (z := 858993459) wd_149 (by decide +kernel) dJ6_bitCount_0f7a4_11 ?_
  refine z_iand C 0 (by decide +kernel) dJ6_bitCount_0f7a4_14 ?_
  refine z_iload_n C hl 0 rfl dJ6_bitCount_0f7a4_15 ?_
  refine z_iconst C dJ6_bitCount_0f7a4_16 ?_
  refine z_iushr C 1 (by decide +kernel) dJ6_bitCount_0f7a4_17 ?_
  refine z_ldcw C (z := 858993459) wd_149 (by decide +kernel) dJ6_bitCount_0f7a4_18 ?_
  refine z_iand C 1 (by decide +kernel) dJ6_bitCount_0f7a4_21 ?_
  refine z_iadd C dJ6_bitCount_0f7a4_22 ?_
  refine z_istore_n C [0] [(0, .int (iI 1))] hl (by decide) rfl dJ6_bitCount_0f7a4_23 (fun ls hl => ?_)
  refine z_iload_n C hl 0 rfl dJ6_bitCount_0f7a4_24 ?_
  refine z_iload_n C hl 0 rfl dJ6_bitCount_0f7a4_25 ?_
  refine z_iconst C dJ6_bitCount_0f7a4_26 ?_
  refine z_iushr C 0 (by decide +kernel) dJ6_bitCount_0f7a4_27 ?_
  refine z_iadd C dJ6_bitCount_0f7a4_28 ?_
  refine z_ldcw C (z := 252645135) wd_150 (by decide +kernel) dJ6_bitCount_0f7a4_29 ?_
  refine z_iand C 1 (by decide +kernel) dJ6_bitCount_0f7a4_32 ?_
  refine z_istore_n C [0] [(0, .int (iI 1))] hl (by decide) rfl dJ6_bitCount_0f7a4_33 (fun ls hl => ?_)
  refine z_iload_n C hl 0 rfl dJ6_bitCount_0f7a4_34 ?_
  refine z_iload_n C hl 0 rfl dJ6_bitCount_0f7a4_35 ?_
  refine z_bipush C (by decide +kernel) dJ6_bitCount_0f7a4_36 ?_
  refine z_iushr C 0 (by decide +kernel) dJ6_bitCount_0f7a4_38 ?_
  refine z_iadd C dJ6_bitCount_0f7a4_39 ?_
  refine z_istore_n C [0] [(0, .int (iI 1))] hl (by decide) rfl dJ6_bitCount_0f7a4_40 (fun ls hl => ?_)
  refine z_iload_n C hl 0 rfl dJ6_bitCount_0f7a4_41 ?_
  refine z_iload_n C hl 0 rfl dJ6_bitCount_0f7a4_42 ?_
  refine z_bipush C (by decide +kernel) dJ6_bitCount_0f7a4_43 ?_
  refine z_iushr C 0 (by decide +kernel) dJ6_bitCount_0f7a4_45 ?_
  refine z_iadd C dJ6_bitCount_0f7a4_46 ?_
  refine z_istore_n C [0] [(0, .int (iI 1))] hl (by decide) rfl dJ6_bitCount_0f7a4_47 (fun ls hl => ?_)
  refine z_iload_n C hl 0 rfl dJ6_bitCount_0f7a4_48 ?_
  refine z_bipush C (by decide +kernel) dJ6_bitCount_0f7a4_49 ?_
  refine z_iand C 1 (by decide +kernel) dJ6_bitCount_0f7a4_51 ?_
  exact z_retSi C hr hlocks rfl (by decide +kernel) dJ6_bitCount_0f7a4_52

set_option maxRecDepth 20000 in
set_option maxHeartbeats 4000000 in
theorem c_J6_bitCount_0f7a4_5 {l : Launch} {D : va_G} {Y : Nat → ClassId} {a : Int → Nat} (hI : zI a) (σ : zS)  : zMet l yJ6_bitCount_0f7a4 cJ6_bitCount_0f7a4 1 (some .int) 0 (zPc D Y a σ [.int (iI 5)]) (zSi (mPop 5)) zNo := by
  refine z_start rfl (Nat.le_of_ble_eq_true rfl) hI ?_
  intro p e s m below meth c ls C hr hlocks hl hP
  have hl : lv_has ls 1 [(0, .int (iI 5))] := hl
  refine z_iload_n C hl 0 rfl dJ6_bitCount_0f7a4_0 ?_
  refine z_iload_n C hl 0 rfl dJ6_bitCount_0f7a4_1 ?_
  refine z_iconst C dJ6_bitCount_0f7a4_2 ?_
  refine z_iushr C 2 (by decide +kernel) dJ6_bitCount_0f7a4_3 ?_
  refine z_ldcw C (z := 1431655765) wd_148 (by decide +kernel) dJ6_bitCount_0f7a4_4 ?_
  refine z_iand C 0 (by decide +kernel) dJ6_bitCount_0f7a4_7 ?_
  refine z_isub C dJ6_bitCount_0f7a4_8 ?_
  refine z_istore_n C [0] [(0, .int (iI 5))] hl (by decide) rfl dJ6_bitCount_0f7a4_9 (fun ls hl => ?_)
  refine z_iload_n C hl 0 rfl dJ6_bitCount_0f7a4_10 ?_
  refine z_ldcw C (z := 858993459) wd_149 (by decide +kernel) dJ6_bitCount_0f7a4_11 ?_
  refine z_iand C 1 (by decide +kernel) dJ6_bitCount_0f7a4_14 ?_
  refine z_iload_n C hl 0 rfl dJ6_bitCount_0f7a4_15 ?_
  refine z_iconst C dJ6_bitCount_0f7a4_16 ?_
  refine z_iushr C 1 (by decide +kernel) dJ6_bitCount_0f7a4_17 ?_
  refine z_ldcw C (z := 858993459) wd_149 (by decide +kernel) dJ6_bitCount_0f7a4_18 ?_
  refine z_iand C 1 (by decide +kernel) dJ6_bitCount_0f7a4_21 ?_
  refine z_iadd C dJ6_bitCount_0f7a4_22 ?_
  refine z_istore_n C [0] [(0, .int (iI 2))] hl (by decide) rfl dJ6_bitCount_0f7a4_23 (fun ls hl => ?_)
  refine z_iload_n C hl 0 rfl dJ6_bitCount_0f7a4_24 ?_
  refine z_iload_n C hl 0 rfl dJ6_bitCount_0f7a4_25 ?_
  refine z_iconst C dJ6_bitCount_0f7a4_26 ?_
  refine z_iushr C 0 (by decide +kernel) dJ6_bitCount_0f7a4_27 ?_
  refine z_iadd C dJ6_bitCount_0f7a4_28 ?_
  refine z_ldcw C (z := 252645135) wd_150 (by decide +kernel) dJ6_bitCount_0f7a4_29 ?_
  refine z_iand C 2 (by decide +kernel) dJ6_bitCount_0f7a4_32 ?_
  refine z_istore_n C [0] [(0, .int (iI 2))] hl (by decide) rfl dJ6_bitCount_0f7a4_33 (fun ls hl => ?_)
  refine z_iload_n C hl 0 rfl dJ6_bitCount_0f7a4_34 ?_
  refine z_iload_n C hl 0 rfl dJ6_bitCount_0f7a4_35 ?_
  refine z_bipush C (by decide +kernel) dJ6_bitCount_0f7a4_36 ?_
  refine z_iushr C 0 (by decide +kernel) dJ6_bitCount_0f7a4_38 ?_
  refine z_iadd C dJ6_bitCount_0f7a4_39 ?_
  refine z_istore_n C [0] [(0, .int (iI 2))] hl (by decide) rfl dJ6_bitCount_0f7a4_40 (fun ls hl => ?_)
  refine z_iload_n C hl 0 rfl dJ6_bitCount_0f7a4_41 ?_
  refine z_iload_n C hl 0 rfl dJ6_bitCount_0f7a4_42 ?_
  refine z_bipush C (by decide +kernel) dJ6_bitCount_0f7a4_43 ?_
  refine z_iushr C 0 (by decide +kernel) dJ6_bitCount_0f7a4_45 ?_
  refine z_iadd C dJ6_bitCount_0f7a4_46 ?_
  refine z_istore_n C [0] [(0, .int (iI 2))] hl (by decide) rfl dJ6_bitCount_0f7a4_47 (fun ls hl => ?_)
  refine z_iload_n C hl 0 rfl dJ6_bitCount_0f7a4_48 ?_
  refine z_bipush C (by decide +kernel) dJ6_bitCount_0f7a4_49 ?_
  refine z_iand C 2 (by decide +kernel) dJ6_bitCount_0f7a4_51 ?_
  exact z_retSi C hr hlocks rfl (by decide +kernel) dJ6_bitCount_0f7a4_52

set_option maxRecDepth 20000 in
set_option maxHeartbeats 4000000 in
theorem c_J6_bitCount_0f7a4_6 {l : Launch} {D : va_G} {Y : Nat → ClassId} {a : Int → Nat} (hI : zI a) (σ : zS)  : zMet l yJ6_bitCount_0f7a4 cJ6_bitCount_0f7a4 1 (some .int) 0 (zPc D Y a σ [.int (iI 6)]) (zSi (mPop 6)) zNo := by
  refine z_start rfl (Nat.le_of_ble_eq_true rfl) hI ?_
  intro p e s m below meth c ls C hr hlocks hl hP
  have hl : lv_has ls 1 [(0, .int (iI 6))] := hl
  refine z_iload_n C hl 0 rfl dJ6_bitCount_0f7a4_0 ?_
  refine z_iload_n C hl 0 rfl dJ6_bitCount_0f7a4_1 ?_
  refine z_iconst C dJ6_bitCount_0f7a4_2 ?_
  refine z_iushr C 3 (by decide +kernel) dJ6_bitCount_0f7a4_3 ?_
  refine z_ldcw C (z := 1431655765) wd_148 (by decide +kernel) dJ6_bitCount_0f7a4_4 ?_
  refine z_iand C 1 (by decide +kernel) dJ6_bitCount_0f7a4_7 ?_
  refine z_isub C dJ6_bitCount_0f7a4_8 ?_
  refine z_istore_n C [0] [(0, .int (iI 5))] hl (by decide) rfl dJ6_bitCount_0f7a4_9 (fun ls hl => ?_)
  refine z_iload_n C hl 0 rfl dJ6_bitCount_0f7a4_10 ?_
  refine z_ldcw C (z := 858993459) wd_149 (by decide +kernel) dJ6_bitCount_0f7a4_11 ?_
  refine z_iand C 1 (by decide +kernel) dJ6_bitCount_0f7a4_14 ?_
  refine z_iload_n C hl 0 rfl dJ6_bitCount_0f7a4_15 ?_
  refine z_iconst C dJ6_bitCount_0f7a4_16 ?_
  refine z_iushr C 1 (by decide +kernel) dJ6_bitCount_0f7a4_17 ?_
  refine z_ldcw C (z := 858993459) wd_149 (by decide +kernel) dJ6_bitCount_0f7a4_18 ?_
  refine z_iand C 1 (by decide +kernel) dJ6_bitCount_0f7a4_21 ?_
  refine z_iadd C dJ6_bitCount_0f7a4_22 ?_
  refine z_istore_n C [0] [(0, .int (iI 2))] hl (by decide) rfl dJ6_bitCount_0f7a4_23 (fun ls hl => ?_)
  refine z_iload_n C hl 0 rfl dJ6_bitCount_0f7a4_24 ?_
  refine z_iload_n C hl 0 rfl dJ6_bitCount_0f7a4_25 ?_
  refine z_iconst C dJ6_bitCount_0f7a4_26 ?_
  refine z_iushr C 0 (by decide +kernel) dJ6_bitCount_0f7a4_27 ?_
  refine z_iadd C dJ6_bitCount_0f7a4_28 ?_
  refine z_ldcw C (z := 252645135) wd_150 (by decide +kernel) dJ6_bitCount_0f7a4_29 ?_
  refine z_iand C 2 (by decide +kernel) dJ6_bitCount_0f7a4_32 ?_
  refine z_istore_n C [0] [(0, .int (iI 2))] hl (by decide) rfl dJ6_bitCount_0f7a4_33 (fun ls hl => ?_)
  refine z_iload_n C hl 0 rfl dJ6_bitCount_0f7a4_34 ?_
  refine z_iload_n C hl 0 rfl dJ6_bitCount_0f7a4_35 ?_
  refine z_bipush C (by decide +kernel) dJ6_bitCount_0f7a4_36 ?_
  refine z_iushr C 0 (by decide +kernel) dJ6_bitCount_0f7a4_38 ?_
  refine z_iadd C dJ6_bitCount_0f7a4_39 ?_
  refine z_istore_n C [0] [(0, .int (iI 2))] hl (by decide) rfl dJ6_bitCount_0f7a4_40 (fun ls hl => ?_)
  refine z_iload_n C hl 0 rfl dJ6_bitCount_0f7a4_41 ?_
  refine z_iload_n C hl 0 rfl dJ6_bitCount_0f7a4_42 ?_
  refine z_bipush C (by decide +kernel) dJ6_bitCount_0f7a4_43 ?_
  refine z_iushr C 0 (by decide +kernel) dJ6_bitCount_0f7a4_45 ?_
  refine z_iadd C dJ6_bitCount_0f7a4_46 ?_
  refine z_istore_n C [0] [(0, .int (iI 2))] hl (by decide) rfl dJ6_bitCount_0f7a4_47 (fun ls hl => ?_)
  refine z_iload_n C hl 0 rfl dJ6_bitCount_0f7a4_48 ?_
  refine z_bipush C (by decide +kernel) dJ6_bitCount_0f7a4_49 ?_
  refine z_iand C 2 (by decide +kernel) dJ6_bitCount_0f7a4_51 ?_
  exact z_retSi C hr hlocks rfl (by decide +kernel) dJ6_bitCount_0f7a4_52

set_option maxRecDepth 20000 in
set_option maxHeartbeats 4000000 in
theorem c_J6_bitCount_0f7a4_7 {l : Launch} {D : va_G} {Y : Nat → ClassId} {a : Int → Nat} (hI : zI a) (σ : zS)  : zMet l yJ6_bitCount_0f7a4 cJ6_bitCount_0f7a4 1 (some .int) 0 (zPc D Y a σ [.int (iI 7)]) (zSi (mPop 7)) zNo := by
  refine z_start rfl (Nat.le_of_ble_eq_true rfl) hI ?_
  intro p e s m below meth c ls C hr hlocks hl hP
  have hl : lv_has ls 1 [(0, .int (iI 7))] := hl
  refine z_iload_n C hl 0 rfl dJ6_bitCount_0f7a4_0 ?_
  refine z_iload_n C hl 0 rfl dJ6_bitCount_0f7a4_1 ?_
  refine z_iconst C dJ6_bitCount_0f7a4_2 ?_
  refine z_iushr C 3 (by decide +kernel) dJ6_bitCount_0f7a4_3 ?_
  refine z_ldcw C (z := 1431655765) wd_148 (by decide +kernel) dJ6_bitCount_0f7a4_4 ?_
  refine z_iand C 1 (by decide +kernel) dJ6_bitCount_0f7a4_7 ?_
  refine z_isub C dJ6_bitCount_0f7a4_8 ?_
  refine z_istore_n C [0] [(0, .int (iI 6))] hl (by decide) rfl dJ6_bitCount_0f7a4_9 (fun ls hl => ?_)
  refine z_iload_n C hl 0 rfl dJ6_bitCount_0f7a4_10 ?_
  refine z_ldcw C (z := 858993459) wd_149 (by decide +kernel) dJ6_bitCount_0f7a4_11 ?_
  refine z_iand C 2 (by decide +kernel) dJ6_bitCount_0f7a4_14 ?_
  refine z_iload_n C hl 0 rfl dJ6_bitCount_0f7a4_15 ?_
  refine z_iconst C dJ6_bitCount_0f7a4_16 ?_
  refine z_iushr C 1 (by decide +kernel) dJ6_bitCount_0f7a4_17 ?_
  refine z_ldcw C (z := 858993459) wd_149 (by decide +kernel) dJ6_bitCount_0f7a4_18 ?_
  refine z_iand C 1 (by decide +kernel) dJ6_bitCount_0f7a4_21 ?_
  refine z_iadd C dJ6_bitCount_0f7a4_22 ?_
  refine z_istore_n C [0] [(0, .int (iI 3))] hl (by decide) rfl dJ6_bitCount_0f7a4_23 (fun ls hl => ?_)
  refine z_iload_n C hl 0 rfl dJ6_bitCount_0f7a4_24 ?_
  refine z_iload_n C hl 0 rfl dJ6_bitCount_0f7a4_25 ?_
  refine z_iconst C dJ6_bitCount_0f7a4_26 ?_
  refine z_iushr C 0 (by decide +kernel) dJ6_bitCount_0f7a4_27 ?_
  refine z_iadd C dJ6_bitCount_0f7a4_28 ?_
  refine z_ldcw C (z := 252645135) wd_150 (by decide +kernel) dJ6_bitCount_0f7a4_29 ?_
  refine z_iand C 3 (by decide +kernel) dJ6_bitCount_0f7a4_32 ?_
  refine z_istore_n C [0] [(0, .int (iI 3))] hl (by decide) rfl dJ6_bitCount_0f7a4_33 (fun ls hl => ?_)
  refine z_iload_n C hl 0 rfl dJ6_bitCount_0f7a4_34 ?_
  refine z_iload_n C hl 0 rfl dJ6_bitCount_0f7a4_35 ?_
  refine z_bipush C (by decide +kernel) dJ6_bitCount_0f7a4_36 ?_
  refine z_iushr C 0 (by decide +kernel) dJ6_bitCount_0f7a4_38 ?_
  refine z_iadd C dJ6_bitCount_0f7a4_39 ?_
  refine z_istore_n C [0] [(0, .int (iI 3))] hl (by decide) rfl dJ6_bitCount_0f7a4_40 (fun ls hl => ?_)
  refine z_iload_n C hl 0 rfl dJ6_bitCount_0f7a4_41 ?_
  refine z_iload_n C hl 0 rfl dJ6_bitCount_0f7a4_42 ?_
  refine z_bipush C (by decide +kernel) dJ6_bitCount_0f7a4_43 ?_
  refine z_iushr C 0 (by decide +kernel) dJ6_bitCount_0f7a4_45 ?_
  refine z_iadd C dJ6_bitCount_0f7a4_46 ?_
  refine z_istore_n C [0] [(0, .int (iI 3))] hl (by decide) rfl dJ6_bitCount_0f7a4_47 (fun ls hl => ?_)
  refine z_iload_n C hl 0 rfl dJ6_bitCount_0f7a4_48 ?_
  refine z_bipush C (by decide +kernel) dJ6_bitCount_0f7a4_49 ?_
  refine z_iand C 3 (by decide +kernel) dJ6_bitCount_0f7a4_51 ?_
  exact z_retSi C hr hlocks rfl (by decide +kernel) dJ6_bitCount_0f7a4_52

set_option maxRecDepth 20000 in
set_option maxHeartbeats 4000000 in
theorem c_J6_bitCount_0f7a4_8 {l : Launch} {D : va_G} {Y : Nat → ClassId} {a : Int → Nat} (hI : zI a) (σ : zS)  : zMet l yJ6_bitCount_0f7a4 cJ6_bitCount_0f7a4 1 (some .int) 0 (zPc D Y a σ [.int (iI 8)]) (zSi (mPop 8)) zNo := by
  refine z_start rfl (Nat.le_of_ble_eq_true rfl) hI ?_
  intro p e s m below meth c ls C hr hlocks hl hP
  have hl : lv_has ls 1 [(0, .int (iI 8))] := hl
  refine z_iload_n C hl 0 rfl dJ6_bitCount_0f7a4_0 ?_
  refine z_iload_n C hl 0 rfl dJ6_bitCount_0f7a4_1 ?_
  refine z_iconst C dJ6_bitCount_0f7a4_2 ?_
  refine z_iushr C 4 (by decide +kernel) dJ6_bitCount_0f7a4_3 ?_
  refine z_ldcw C (z := 1431655765) wd_148 (by decide +kernel) dJ6_bitCount_0f7a4_4 ?_
  refine z_iand C 4 (by decide +kernel) dJ6_bitCount_0f7a4_7 ?_
  refine z_isub C dJ6_bitCount_0f7a4_8 ?_
  refine z_istore_n C [0] [(0, .int (iI 4))] hl (by decide) rfl dJ6_bitCount_0f7a4_9 (fun ls hl => ?_)
  refine z_iload_n C hl 0 rfl dJ6_bitCount_0f7a4_10 ?_
  refine z_ldcw C (z := 858993459) wd_149 (by decide +kernel) dJ6_bitCount_0f7a4_11 ?_
  refine z_iand C 0 (by decide +kernel) dJ6_bitCount_0f7a4_14 ?_
  refine z_iload_n C hl 0 rfl dJ6_bitCount_0f7a4_15 ?_
  refine z_iconst C dJ6_bitCount_0f7a4_16 ?_
  refine z_iushr C 1 (by decide +kernel) dJ6_bitCount_0f7a4_17 ?_
  refine z_ldcw C (z := 858993459) wd_149 (by decide +kernel) dJ6_bitCount_0f7a4_18 ?_
  refine z_iand C 1 (by decide +kernel) dJ6_bitCount_0f7a4_21 ?_
  refine z_iadd C dJ6_bitCount_0f7a4_22 ?_
  refine z_istore_n C [0] [(0, .int (iI 1))] hl (by decide) rfl dJ6_bitCount_0f7a4_23 (fun ls hl => ?_)
  refine z_iload_n C hl 0 rfl dJ6_bitCount_0f7a4_24 ?_
  refine z_iload_n C hl 0 rfl dJ6_bitCount_0f7a4_25 ?_
  refine z_iconst C dJ6_bitCount_0f7a4_26 ?_
  refine z_iushr C 0 (by decide +kernel) dJ6_bitCount_0f7a4_27 ?_
  refine z_iadd C dJ6_bitCount_0f7a4_28 ?_
  refine z_ldcw C (z := 252645135) wd_150 (by decide +kernel) dJ6_bitCount_0f7a4_29 ?_
  refine z_iand C 1 (by decide +kernel) dJ6_bitCount_0f7a4_32 ?_
  refine z_istore_n C [0] [(0, .int (iI 1))] hl (by decide) rfl dJ6_bitCount_0f7a4_33 (fun ls hl => ?_)
  refine z_iload_n C hl 0 rfl dJ6_bitCount_0f7a4_34 ?_
  refine z_iload_n C hl 0 rfl dJ6_bitCount_0f7a4_35 ?_
  refine z_bipush C (by decide +kernel) dJ6_bitCount_0f7a4_36 ?_
  refine z_iushr C 0 (by decide +kernel) dJ6_bitCount_0f7a4_38 ?_
  refine z_iadd C dJ6_bitCount_0f7a4_39 ?_
  refine z_istore_n C [0] [(0, .int (iI 1))] hl (by decide) rfl dJ6_bitCount_0f7a4_40 (fun ls hl => ?_)
  refine z_iload_n C hl 0 rfl dJ6_bitCount_0f7a4_41 ?_
  refine z_iload_n C hl 0 rfl dJ6_bitCount_0f7a4_42 ?_
  refine z_bipush C (by decide +kernel) dJ6_bitCount_0f7a4_43 ?_
  refine z_iushr C 0 (by decide +kernel) dJ6_bitCount_0f7a4_45 ?_
  refine z_iadd C dJ6_bitCount_0f7a4_46 ?_
  refine z_istore_n C [0] [(0, .int (iI 1))] hl (by decide) rfl dJ6_bitCount_0f7a4_47 (fun ls hl => ?_)
  refine z_iload_n C hl 0 rfl dJ6_bitCount_0f7a4_48 ?_
  refine z_bipush C (by decide +kernel) dJ6_bitCount_0f7a4_49 ?_
  refine z_iand C 1 (by decide +kernel) dJ6_bitCount_0f7a4_51 ?_
  exact z_retSi C hr hlocks rfl (by decide +kernel) dJ6_bitCount_0f7a4_52

set_option maxRecDepth 20000 in
set_option maxHeartbeats 4000000 in
theorem c_J6_bitCount_0f7a4_9 {l : Launch} {D : va_G} {Y : Nat → ClassId} {a : Int → Nat} (hI : zI a) (σ : zS)  : zMet l yJ6_bitCount_0f7a4 cJ6_bitCount_0f7a4 1 (some .int) 0 (zPc D Y a σ [.int (iI 9)]) (zSi (mPop 9)) zNo := by
  refine z_start rfl (Nat.le_of_ble_eq_true rfl) hI ?_
  intro p e s m below meth c ls C hr hlocks hl hP
  have hl : lv_has ls 1 [(0, .int (iI 9))] := hl
  refine z_iload_n C hl 0 rfl dJ6_bitCount_0f7a4_0 ?_
  refine z_iload_n C hl 0 rfl dJ6_bitCount_0f7a4_1 ?_
  refine z_iconst C dJ6_bitCount_0f7a4_2 ?_
  refine z_iushr C 4 (by decide +kernel) dJ6_bitCount_0f7a4_3 ?_
  refine z_ldcw C (z := 1431655765) wd_148 (by decide +kernel) dJ6_bitCount_0f7a4_4 ?_
  refine z_iand C 4 (by decide +kernel) dJ6_bitCount_0f7a4_7 ?_
  refine z_isub C dJ6_bitCount_0f7a4_8 ?_
  refine z_istore_n C [0] [(0, .int (iI 5))] hl (by decide) rfl dJ6_bitCount_0f7a4_9 (fun ls hl => ?_)
  refine z_iload_n C hl 0 rfl dJ6_bitCount_0f7a4_10 ?_
  refine z_ldcw C (z := 858993459) wd_149 (by decide +kernel) dJ6_bitCount_0f7a4_11 ?_
  refine z_iand C 1 (by decide +kernel) dJ6_bitCount_0f7a4_14 ?_
  refine z_iload_n C hl 0 rfl dJ6_bitCount_0f7a4_15 ?_
  refine z_iconst C dJ6_bitCount_0f7a4_16 ?_
  refine z_iushr C 1 (by decide +kernel) dJ6_bitCount_0f7a4_17 ?_
  refine z_ldcw C (z := 858993459) wd_149 (by decide +kernel) dJ6_bitCount_0f7a4_18 ?_
  refine z_iand C 1 (by decide +kernel) dJ6_bitCount_0f7a4_21 ?_
  refine z_iadd C dJ6_bitCount_0f7a4_22 ?_
  refine z_istore_n C [0] [(0, .int (iI 2))] hl (by decide) rfl dJ6_bitCount_0f7a4_23 (fun ls hl => ?_)
  refine z_iload_n C hl 0 rfl dJ6_bitCount_0f7a4_24 ?_
  refine z_iload_n C hl 0 rfl dJ6_bitCount_0f7a4_25 ?_
  refine z_iconst C dJ6_bitCount_0f7a4_26 ?_
  refine z_iushr C 0 (by decide +kernel) dJ6_bitCount_0f7a4_27 ?_
  refine z_iadd C dJ6_bitCount_0f7a4_28 ?_
  refine z_ldcw C (z := 252645135) wd_150 (by decide +kernel) dJ6_bitCount_0f7a4_29 ?_
  refine z_iand C 2 (by decide +kernel) dJ6_bitCount_0f7a4_32 ?_
  refine z_istore_n C [0] [(0, .int (iI 2))] hl (by decide) rfl dJ6_bitCount_0f7a4_33 (fun ls hl => ?_)
  refine z_iload_n C hl 0 rfl dJ6_bitCount_0f7a4_34 ?_
  refine z_iload_n C hl 0 rfl dJ6_bitCount_0f7a4_35 ?_
  refine z_bipush C (by decide +kernel) dJ6_bitCount_0f7a4_36 ?_
  refine z_iushr C 0 (by decide +kernel) dJ6_bitCount_0f7a4_38 ?_
  refine z_iadd C dJ6_bitCount_0f7a4_39 ?_
  refine z_istore_n C [0] [(0, .int (iI 2))] hl (by decide) rfl dJ6_bitCount_0f7a4_40 (fun ls hl => ?_)
  refine z_iload_n C hl 0 rfl dJ6_bitCount_0f7a4_41 ?_
  refine z_iload_n C hl 0 rfl dJ6_bitCount_0f7a4_42 ?_
  refine z_bipush C (by decide +kernel) dJ6_bitCount_0f7a4_43 ?_
  refine z_iushr C 0 (by decide +kernel) dJ6_bitCount_0f7a4_45 ?_
  refine z_iadd C dJ6_bitCount_0f7a4_46 ?_
  refine z_istore_n C [0] [(0, .int (iI 2))] hl (by decide) rfl dJ6_bitCount_0f7a4_47 (fun ls hl => ?_)
  refine z_iload_n C hl 0 rfl dJ6_bitCount_0f7a4_48 ?_
  refine z_bipush C (by decide +kernel) dJ6_bitCount_0f7a4_49 ?_
  refine z_iand C 2 (by decide +kernel) dJ6_bitCount_0f7a4_51 ?_
  exact z_retSi C hr hlocks rfl (by decide +kernel) dJ6_bitCount_0f7a4_52

set_option maxRecDepth 20000 in
set_option maxHeartbeats 4000000 in
theorem c_J6_bitCount_0f7a4_10 {l : Launch} {D : va_G} {Y : Nat → ClassId} {a : Int → Nat} (hI : zI a) (σ : zS)  : zMet l yJ6_bitCount_0f7a4 cJ6_bitCount_0f7a4 1 (some .int) 0 (zPc D Y a σ [.int (iI 10)]) (zSi (mPop 10)) zNo := by
  refine z_start rfl (Nat.le_of_ble_eq_true rfl) hI ?_
  intro p e s m below meth c ls C hr hlocks hl hP
  have hl : lv_has ls 1 [(0, .int (iI 10))] := hl
  refine z_iload_n C hl 0 rfl dJ6_bitCount_0f7a4_0 ?_
  refine z_iload_n C hl 0 rfl dJ6_bitCount_0f7a4_1 ?_
  refine z_iconst C dJ6_bitCount_0f7a4_2 ?_
  refine z_iushr C 5 (by decide +kernel) dJ6_bitCount_0f7a4_3 ?_
  refine z_ldcw C (z := 1431655765) wd_148 (by decide +kernel) dJ6_bitCount_0f7a4_4 ?_
  refine z_iand C 5 (by decide +kernel) dJ6_bitCount_0f7a4_7 ?_
  refine z_isub C dJ6_bitCount_0f7a4_8 ?_
  refine z_istore_n C [0] [(0, .int (iI 5))] hl (by decide) rfl dJ6_bitCount_0f7a4_9 (fun ls hl => ?_)
  refine z_iload_n C hl 0 rfl dJ6_bitCount_0f7a4_10 ?_
  refine z_ldcw C (z := 858993459) wd_149 (by decide +kernel) dJ6_bitCount_0f7a4_11 ?_
  refine z_iand C 1 (by decide +kernel) dJ6_bitCount_0f7a4_14 ?_
  refine z_iload_n C hl 0 rfl dJ6_bitCount_0f7a4_15 ?_
  refine z_iconst C dJ6_bitCount_0f7a4_16 ?_
  refine z_iushr C 1 (by decide +kernel) dJ6_bitCount_0f7a4_17 ?_
  refine z_ldcw C (z := 858993459) wd_149 (by decide +kernel) dJ6_bitCount_0f7a4_18 ?_
  refine z_iand C 1 (by decide +kernel) dJ6_bitCount_0f7a4_21 ?_
  refine z_iadd C dJ6_bitCount_0f7a4_22 ?_
  refine z_istore_n C [0] [(0, .int (iI 2))] hl (by decide) rfl dJ6_bitCount_0f7a4_23 (fun ls hl => ?_)
  refine z_iload_n C hl 0 rfl dJ6_bitCount_0f7a4_24 ?_
  refine z_iload_n C hl 0 rfl dJ6_bitCount_0f7a4_25 ?_
  refine z_iconst C dJ6_bitCount_0f7a4_26 ?_
  refine z_iushr C 0 (by decide +kernel) dJ6_bitCount_0f7a4_27 ?_
  refine z_iadd C dJ6_bitCount_0f7a4_28 ?_
  refine z_ldcw C (z := 252645135) wd_150 (by decide +kernel) dJ6_bitCount_0f7a4_29 ?_
  refine z_iand C 2 (by decide +kernel) dJ6_bitCount_0f7a4_32 ?_
  refine z_istore_n C [0] [(0, .int (iI 2))] hl (by decide) rfl dJ6_bitCount_0f7a4_33 (fun ls hl => ?_)
  refine z_iload_n C hl 0 rfl dJ6_bitCount_0f7a4_34 ?_
  refine z_iload_n C hl 0 rfl dJ6_bitCount_0f7a4_35 ?_
  refine z_bipush C (by decide +kernel) dJ6_bitCount_0f7a4_36 ?_
  refine z_iushr C 0 (by decide +kernel) dJ6_bitCount_0f7a4_38 ?_
  refine z_iadd C dJ6_bitCount_0f7a4_39 ?_
  refine z_istore_n C [0] [(0, .int (iI 2))] hl (by decide) rfl dJ6_bitCount_0f7a4_40 (fun ls hl => ?_)
  refine z_iload_n C hl 0 rfl dJ6_bitCount_0f7a4_41 ?_
  refine z_iload_n C hl 0 rfl dJ6_bitCount_0f7a4_42 ?_
  refine z_bipush C (by decide +kernel) dJ6_bitCount_0f7a4_43 ?_
  refine z_iushr C 0 (by decide +kernel) dJ6_bitCount_0f7a4_45 ?_
  refine z_iadd C dJ6_bitCount_0f7a4_46 ?_
  refine z_istore_n C [0] [(0, .int (iI 2))] hl (by decide) rfl dJ6_bitCount_0f7a4_47 (fun ls hl => ?_)
  refine z_iload_n C hl 0 rfl dJ6_bitCount_0f7a4_48 ?_
  refine z_bipush C (by decide +kernel) dJ6_bitCount_0f7a4_49 ?_
  refine z_iand C 2 (by decide +kernel) dJ6_bitCount_0f7a4_51 ?_
  exact z_retSi C hr hlocks rfl (by decide +kernel) dJ6_bitCount_0f7a4_52

set_option maxRecDepth 20000 in
set_option maxHeartbeats 4000000 in
theorem c_J6_bitCount_0f7a4_11 {l : Launch} {D : va_G} {Y : Nat → ClassId} {a : Int → Nat} (hI : zI a) (σ : zS)  : zMet l yJ6_bitCount_0f7a4 cJ6_bitCount_0f7a4 1 (some .int) 0 (zPc D Y a σ [.int (iI 11)]) (zSi (mPop 11)) zNo := by
  refine z_start rfl (Nat.le_of_ble_eq_true rfl) hI ?_
  intro p e s m below meth c ls C hr hlocks hl hP
  have hl : lv_has ls 1 [(0, .int (iI 11))] := hl
  refine z_iload_n C hl 0 rfl dJ6_bitCount_0f7a4_0 ?_
  refine z_iload_n C hl 0 rfl dJ6_bitCount_0f7a4_1 ?_
  refine z_iconst C dJ6_bitCount_0f7a4_2 ?_
  refine z_iushr C 5 (by decide +kernel) dJ6_bitCount_0f7a4_3 ?_
  refine z_ldcw C (z := 1431655765) wd_148 (by decide +kernel) dJ6_bitCount_0f7a4_4 ?_
  refine z_iand C 5 (by decide +kernel) dJ6_bitCount_0f7a4_7 ?_
  refine z_isub C dJ6_bitCount_0f7a4_8 ?_
  refine z_istore_n C [0] [(0, .int (iI 6))] hl (by decide) rfl dJ6_bitCount_0f7a4_9 (fun ls hl => ?_)
  refine z_iload_n C hl 0 rfl dJ6_bitCount_0f7a4_10 ?_
  refine z_ldcw C (z := 858993459) wd_149 (by decide +kernel) dJ6_bitCount_0f7a4_11 ?_
  refine z_iand C 2 (by decide +kernel) dJ6_bitCount_0f7a4_14 ?_
  refine z_iload_n C hl 0 rfl dJ6_bitCount_0f7a4_15 ?_
  refine z_iconst C dJ6_bitCount_0f7a4_16 ?_
  refine z_iushr C 1 (by decide +kernel) dJ6_bitCount_0f7a4_17 ?_
  refine z_ldcw C (z := 858993459) wd_149 (by decide +kernel) dJ6_bitCount_0f7a4_18 ?_
  refine z_iand C 1 (by decide +kernel) dJ6_bitCount_0f7a4_21 ?_
  refine z_iadd C dJ6_bitCount_0f7a4_22 ?_
  refine z_istore_n C [0] [(0, .int (iI 3))] hl (by decide) rfl dJ6_bitCount_0f7a4_23 (fun ls hl => ?_)
  refine z_iload_n C hl 0 rfl dJ6_bitCount_0f7a4_24 ?_
  refine z_iload_n C hl 0 rfl dJ6_bitCount_0f7a4_25 ?_
  refine z_iconst C dJ6_bitCount_0f7a4_26 ?_
  refine z_iushr C 0 (by decide +kernel) dJ6_bitCount_0f7a4_27 ?_
  refine z_iadd C dJ6_bitCount_0f7a4_28 ?_
  refine z_ldcw C (z := 252645135) wd_150 (by decide +kernel) dJ6_bitCount_0f7a4_29 ?_
  refine z_iand C 3 (by decide +kernel) dJ6_bitCount_0f7a4_32 ?_
  refine z_istore_n C [0] [(0, .int (iI 3))] hl (by decide) rfl dJ6_bitCount_0f7a4_33 (fun ls hl => ?_)
  refine z_iload_n C hl 0 rfl dJ6_bitCount_0f7a4_34 ?_
  refine z_iload_n C hl 0 rfl dJ6_bitCount_0f7a4_35 ?_
  refine z_bipush C (by decide +kernel) dJ6_bitCount_0f7a4_36 ?_
  refine z_iushr C 0 (by decide +kernel) dJ6_bitCount_0f7a4_38 ?_
  refine z_iadd C dJ6_bitCount_0f7a4_39 ?_
  refine z_istore_n C [0] [(0, .int (iI 3))] hl (by decide) rfl dJ6_bitCount_0f7a4_40 (fun ls hl => ?_)
  refine z_iload_n C hl 0 rfl dJ6_bitCount_0f7a4_41 ?_
  refine z_iload_n C hl 0 rfl dJ6_bitCount_0f7a4_42 ?_
  refine z_bipush C (by decide +kernel) dJ6_bitCount_0f7a4_43 ?_
  refine z_iushr C 0 (by decide +kernel) dJ6_bitCount_0f7a4_45 ?_
  refine z_iadd C dJ6_bitCount_0f7a4_46 ?_
  refine z_istore_n C [0] [(0, .int (iI 3))] hl (by decide) rfl dJ6_bitCount_0f7a4_47 (fun ls hl => ?_)
  refine z_iload_n C hl 0 rfl dJ6_bitCount_0f7a4_48 ?_
  refine z_bipush C (by decide +kernel) dJ6_bitCount_0f7a4_49 ?_
  refine z_iand C 3 (by decide +kernel) dJ6_bitCount_0f7a4_51 ?_
  exact z_retSi C hr hlocks rfl (by decide +kernel) dJ6_bitCount_0f7a4_52

set_option maxRecDepth 20000 in
set_option maxHeartbeats 4000000 in
theorem c_J6_bitCount_0f7a4_12 {l : Launch} {D : va_G} {Y : Nat → ClassId} {a : Int → Nat} (hI : zI a) (σ : zS)  : zMet l yJ6_bitCount_0f7a4 cJ6_bitCount_0f7a4 1 (some .int) 0 (zPc D Y a σ [.int (iI 12)]) (zSi (mPop 12)) zNo := by
  refine z_start rfl (Nat.le_of_ble_eq_true rfl) hI ?_
  intro p e s m below meth c ls C hr hlocks hl hP
  have hl : lv_has ls 1 [(0, .int (iI 12))] := hl
  refine z_iload_n C hl 0 rfl dJ6_bitCount_0f7a4_0 ?_
  refine z_iload_n C hl 0 rfl dJ6_bitCount_0f7a4_1 ?_
  refine z_iconst C dJ6_bitCount_0f7a4_2 ?_
  refine z_iushr C 6 (by decide +kernel) dJ6_bitCount_0f7a4_3 ?_
  refine z_ldcw C (z := 1431655765) wd_148 (by decide +kernel) dJ6_bitCount_0f7a4_4 ?_
  refine z_iand C 4 (by decide +kernel) dJ6_bitCount_0f7a4_7 ?_
  refine z_isub C dJ6_bitCount_0f7a4_8 ?_
  refine z_istore_n C [0] [(0, .int (iI 8))] hl (by decide) rfl dJ6_bitCount_0f7a4_9 (fun ls hl => ?_)
  refine z_iload_n C hl 0 rfl dJ6_bitCount_0f7a4_10 ?_
  refine z_ldcw C (z := 858993459) wd_149 (by decide +kernel) dJ6_bitCount_0f7a4_11 ?_
  refine z_iand C 0 (by decide +kernel) dJ6_bitCount_0f7a4_14 ?_
  refine z_iload_n C hl 0 rfl dJ6_bitCount_0f7a4_15 ?_
  refine z_iconst C dJ6_bitCount_0f7a4_16 ?_
  refine z_iushr C 2 (by decide +kernel) dJ6_bitCount_0f7a4_17 ?_
  refine z_ldcw C (z := 858993459) wd_149 (by decide +kernel) dJ6_bitCount_0f7a4_18 ?_
  refine z_iand C 2 (by decide +kernel) dJ6_bitCount_0f7a4_21 ?_
  refine z_iadd C dJ6_bitCount_0f7a4_22 ?_
  refine z_istore_n C [0] [(0, .int (iI 2))] hl (by decide) rfl dJ6_bitCount_0f7a4_23 (fun ls hl => ?_)
  refine z_iload_n C hl 0 rfl dJ6_bitCount_0f7a4_24 ?_
  refine z_iload_n C hl 0 rfl dJ6_bitCount_0f7a4_25 ?_
  refine z_iconst C dJ6_bitCount_0f7a4_26 ?_
  refine z_iushr C 0 (by decide +kernel) dJ6_bitCount_0f7a4_27 ?_
  refine z_iadd C dJ6_bitCount_0f7a4_28 ?_
  refine z_ldcw C (z := 252645135) wd_150 (by decide +kernel) dJ6_bitCount_0f7a4_29 ?_
  refine z_iand C 2 (by decide +kernel) dJ6_bitCount_0f7a4_32 ?_
  refine z_istore_n C [0] [(0, .int (iI 2))] hl (by decide) rfl dJ6_bitCount_0f7a4_33 (fun ls hl => ?_)
  refine z_iload_n C hl 0 rfl dJ6_bitCount_0f7a4_34 ?_
  refine z_iload_n C hl 0 rfl dJ6_bitCount_0f7a4_35 ?_
  refine z_bipush C (by decide +kernel) dJ6_bitCount_0f7a4_36 ?_
  refine z_iushr C 0 (by decide +kernel) dJ6_bitCount_0f7a4_38 ?_
  refine z_iadd C dJ6_bitCount_0f7a4_39 ?_
  refine z_istore_n C [0] [(0, .int (iI 2))] hl (by decide) rfl dJ6_bitCount_0f7a4_40 (fun ls hl => ?_)
  refine z_iload_n C hl 0 rfl dJ6_bitCount_0f7a4_41 ?_
  refine z_iload_n C hl 0 rfl dJ6_bitCount_0f7a4_42 ?_
  refine z_bipush C (by decide +kernel) dJ6_bitCount_0f7a4_43 ?_
  refine z_iushr C 0 (by decide +kernel) dJ6_bitCount_0f7a4_45 ?_
  refine z_iadd C dJ6_bitCount_0f7a4_46 ?_
  refine z_istore_n C [0] [(0, .int (iI 2))] hl (by decide) rfl dJ6_bitCount_0f7a4_47 (fun ls hl => ?_)
  refine z_iload_n C hl 0 rfl dJ6_bitCount_0f7a4_48 ?_
  refine z_bipush C (by decide +kernel) dJ6_bitCount_0f7a4_49 ?_
  refine z_iand C 2 (by decide +kernel) dJ6_bitCount_0f7a4_51 ?_
  exact z_retSi C hr hlocks rfl (by decide +kernel) dJ6_bitCount_0f7a4_52

set_option maxRecDepth 20000 in
set_option maxHeartbeats 4000000 in
theorem c_J6_bitCount_0f7a4_13 {l : Launch} {D : va_G} {Y : Nat → ClassId} {a : Int → Nat} (hI : zI a) (σ : zS)  : zMet l yJ6_bitCount_0f7a4 cJ6_bitCount_0f7a4 1 (some .int) 0 (zPc D Y a σ [.int (iI 13)]) (zSi (mPop 13)) zNo := by
  refine z_start rfl (Nat.le_of_ble_eq_true rfl) hI ?_
  intro p e s m below meth c ls C hr hlocks hl hP
  have hl : lv_has ls 1 [(0, .int (iI 13))] := hl
  refine z_iload_n C hl 0 rfl dJ6_bitCount_0f7a4_0 ?_
  refine z_iload_n C hl 0 rfl dJ6_bitCount_0f7a4_1 ?_
  refine z_iconst C dJ6_bitCount_0f7a4_2 ?_
  refine z_iushr C 6 (by decide +kernel) dJ6_bitCount_0f7a4_3 ?_
  refine z_ldcw C (z := 1431655765) wd_148 (by decide +kernel) dJ6_bitCount_0f7a4_4 ?_
  refine z_iand C 4 (by decide +kernel) dJ6_bitCount_0f7a4_7 ?_
  refine z_isub C dJ6_bitCount_0f7a4_8 ?_
  refine z_istore_n C [0] [(0, .int (iI 9))] hl (by decide) rfl dJ6_bitCount_0f7a4_9 (fun ls hl => ?_)
  refine z_iload_n C hl 0 rfl dJ6_bitCount_0f7a4_10 ?_
  refine z_ldcw C (z := 858993459) wd_149 (by decide +kernel) dJ6_bitCount_0f7a4_11 ?_
  refine z_iand C 1 (by decide +kernel) dJ6_bitCount_0f7a4_14 ?_
  refine z_iload_n C hl 0 rfl dJ6_bitCount_0f7a4_15 ?_
  refine z_iconst C dJ6_bitCount_0f7a4_16 ?_
  refine z_iushr C 2 (by decide +kernel) dJ6_bitCount_0f7a4_17 ?_
  refine z_ldcw C (z := 858993459) wd_149 (by decide +kernel) dJ6_bitCount_0f7a4_18 ?_
  refine z_iand C 2 (by decide +kernel) dJ6_bitCount_0f7a4_21 ?_
  refine z_iadd C dJ6_bitCount_0f7a4_22 ?_
  refine z_istore_n C [0] [(0, .int (iI 3))] hl (by decide) rfl dJ6_bitCount_0f7a4_23 (fun ls hl => ?_)
  refine z_iload_n C hl 0 rfl dJ6_bitCount_0f7a4_24 ?_
  refine z_iload_n C hl 0 rfl dJ6_bitCount_0f7a4_25 ?_
  refine z_iconst C dJ6_bitCount_0f7a4_26 ?_
  refine z_iushr C 0 (by decide +kernel) dJ6_bitCount_0f7a4_27 ?_
  refine z_iadd C dJ6_bitCount_0f7a4_28 ?_
  refine z_ldcw C (z := 252645135) wd_150 (by decide +kernel) dJ6_bitCount_0f7a4_29 ?_
  refine z_iand C 3 (by decide +kernel) dJ6_bitCount_0f7a4_32 ?_
  refine z_istore_n C [0] [(0, .int (iI 3))] hl (by decide) rfl dJ6_bitCount_0f7a4_33 (fun ls hl => ?_)
  refine z_iload_n C hl 0 rfl dJ6_bitCount_0f7a4_34 ?_
  refine z_iload_n C hl 0 rfl dJ6_bitCount_0f7a4_35 ?_
  refine z_bipush C (by decide +kernel) dJ6_bitCount_0f7a4_36 ?_
  refine z_iushr C 0 (by decide +kernel) dJ6_bitCount_0f7a4_38 ?_
  refine z_iadd C dJ6_bitCount_0f7a4_39 ?_
  refine z_istore_n C [0] [(0, .int (iI 3))] hl (by decide) rfl dJ6_bitCount_0f7a4_40 (fun ls hl => ?_)
  refine z_iload_n C hl 0 rfl dJ6_bitCount_0f7a4_41 ?_
  refine z_iload_n C hl 0 rfl dJ6_bitCount_0f7a4_42 ?_
  refine z_bipush C (by decide +kernel) dJ6_bitCount_0f7a4_43 ?_
  refine z_iushr C 0 (by decide +kernel) dJ6_bitCount_0f7a4_45 ?_
  refine z_iadd C dJ6_bitCount_0f7a4_46 ?_
  refine z_istore_n C [0] [(0, .int (iI 3))] hl (by decide) rfl dJ6_bitCount_0f7a4_47 (fun ls hl => ?_)
  refine z_iload_n C hl 0 rfl dJ6_bitCount_0f7a4_48 ?_
  refine z_bipush C (by decide +kernel) dJ6_bitCount_0f7a4_49 ?_
  refine z_iand C 3 (by decide +kernel) dJ6_bitCount_0f7a4_51 ?_
  exact z_retSi C hr hlocks rfl (by decide +kernel) dJ6_bitCount_0f7a4_52

set_option maxRecDepth 20000 in
set_option maxHeartbeats 4000000 in
theorem c_J6_bitCount_0f7a4_14 {l : Launch} {D : va_G} {Y : Nat → ClassId} {a : Int → Nat} (hI : zI a) (σ : zS)  : zMet l yJ6_bitCount_0f7a4 cJ6_bitCount_0f7a4 1 (some .int) 0 (zPc D Y a σ [.int (iI 14)]) (zSi (mPop 14)) zNo := by
  refine z_start rfl (Nat.le_of_ble_eq_true rfl) hI ?_
  intro p e s m below meth c ls C hr hlocks hl hP
  have hl : lv_has ls 1 [(0, .int (iI 14))] := hl
  refine z_iload_n C hl 0 rfl dJ6_bitCount_0f7a4_0 ?_
  refine z_iload_n C hl 0 rfl dJ6_bitCount_0f7a4_1 ?_
  refine z_iconst C dJ6_bitCount_0f7a4_2 ?_
  refine z_iushr C 7 (by decide +kernel) dJ6_bitCount_0f7a4_3 ?_
  refine z_ldcw C (z := 1431655765) wd_148 (by decide +kernel) dJ6_bitCount_0f7a4_4 ?_
  refine z_iand C 5 (by decide +kernel) dJ6_bitCount_0f7a4_7 ?_
  refine z_isub C dJ6_bitCount_0f7a4_8 ?_
  refine z_istore_n C [0] [(0, .int (iI 9))] hl (by decide) rfl dJ6_bitCount_0f7a4_9 (fun ls hl => ?_)
  refine z_iload_n C hl 0 rfl dJ6_bitCount_0f7a4_10 ?_
  refine z_ldcw C (z := 858993459) wd_149 (by decide +kernel) dJ6_bitCount_0f7a4_11 ?_
  refine z_iand C 1 (by decide +kernel) dJ6_bitCount_0f7a4_14 ?_
  refine z_iload_n C hl 0 rfl dJ6_bitCount_0f7a4_15 ?_
  refine z_iconst C dJ6_bitCount_0f7a4_16 ?_
  refine z_iushr C 2 (by decide +kernel) dJ6_bitCount_0f7a4_17 ?_
  refine z_ldcw C (z := 858993459) wd_149 (by decide +kernel) dJ6_bitCount_0f7a4_18 ?_
  refine z_iand C 2 (by decide +kernel) dJ6_bitCount_0f7a4_21 ?_
  refine z_iadd C dJ6_bitCount_0f7a4_22 ?_
  refine z_istore_n C [0] [(0, .int (iI 3))] hl (by decide) rfl dJ6_bitCount_0f7a4_23 (fun ls hl => ?_)
  refine z_iload_n C hl 0 rfl dJ6_bitCount_0f7a4_24 ?_
  refine z_iload_n C hl 0 rfl dJ6_bitCount_0f7a4_25 ?_
  refine z_iconst C dJ6_bitCount_0f7a4_26 ?_
  refine z_iushr C 0 (by decide +kernel) dJ6_bitCount_0f7a4_27 ?_
  refine z_iadd C dJ6_bitCount_0f7a4_28 ?_
  refine z_ldcw C (z := 252645135) wd_150 (by decide +kernel) dJ6_bitCount_0f7a4_29 ?_
  refine z_iand C 3 (by decide +kernel) dJ6_bitCount_0f7a4_32 ?_
  refine z_istore_n C [0] [(0, .int (iI 3))] hl (by decide) rfl dJ6_bitCount_0f7a4_33 (fun ls hl => ?_)
  refine z_iload_n C hl 0 rfl dJ6_bitCount_0f7a4_34 ?_
  refine z_iload_n C hl 0 rfl dJ6_bitCount_0f7a4_35 ?_
  refine z_bipush C (by decide +kernel) dJ6_bitCount_0f7a4_36 ?_
  refine z_iushr C 0 (by decide +kernel) dJ6_bitCount_0f7a4_38 ?_
  refine z_iadd C dJ6_bitCount_0f7a4_39 ?_
  refine z_istore_n C [0] [(0, .int (iI 3))] hl (by decide) rfl dJ6_bitCount_0f7a4_40 (fun ls hl => ?_)
  refine z_iload_n C hl 0 rfl dJ6_bitCount_0f7a4_41 ?_
  refine z_iload_n C hl 0 rfl dJ6_bitCount_0f7a4_42 ?_
  refine z_bipush C (by decide +kernel) dJ6_bitCount_0f7a4_43 ?_
  refine z_iushr C 0 (by decide +kernel) dJ6_bitCount_0f7a4_45 ?_
  refine z_iadd C dJ6_bitCount_0f7a4_46 ?_
  refine z_istore_n C [0] [(0, .int (iI 3))] hl (by decide) rfl dJ6_bitCount_0f7a4_47 (fun ls hl => ?_)
  refine z_iload_n C hl 0 rfl dJ6_bitCount_0f7a4_48 ?_
  refine z_bipush C (by decide +kernel) dJ6_bitCount_0f7a4_49 ?_
  refine z_iand C 3 (by decide +kernel) dJ6_bitCount_0f7a4_51 ?_
  exact z_retSi C hr hlocks rfl (by decide +kernel) dJ6_bitCount_0f7a4_52

set_option maxRecDepth 20000 in
set_option maxHeartbeats 4000000 in
theorem c_J6_bitCount_0f7a4_15 {l : Launch} {D : va_G} {Y : Nat → ClassId} {a : Int → Nat} (hI : zI a) (σ : zS)  : zMet l yJ6_bitCount_0f7a4 cJ6_bitCount_0f7a4 1 (some .int) 0 (zPc D Y a σ [.int (iI 15)]) (zSi (mPop 15)) zNo := by
  refine z_start rfl (Nat.le_of_ble_eq_true rfl) hI ?_
  intro p e s m below meth c ls C hr hlocks hl hP
  have hl : lv_has ls 1 [(0, .int (iI 15))] := hl
  refine z_iload_n C hl 0 rfl dJ6_bitCount_0f7a4_0 ?_
  refine z_iload_n C hl 0 rfl dJ6_bitCount_0f7a4_1 ?_
  refine z_iconst C dJ6_bitCount_0f7a4_2 ?_
  refine z_iushr C 7 (by decide +kernel) dJ6_bitCount_0f7a4_3 ?_
  refine z_ldcw C (z := 1431655765) wd_148 (by decide +kernel) dJ6_bitCount_0f7a4_4 ?_
  refine z_iand C 5 (by decide +kernel) dJ6_bitCount_0f7a4_7 ?_
  refine z_isub C dJ6_bitCount_0f7a4_8 ?_
  refine z_istore_n C [0] [(0, .int (iI 10))] hl (by decide) rfl dJ6_bitCount_0f7a4_9 (fun ls hl => ?_)
  refine z_iload_n C hl 0 rfl dJ6_bitCount_0f7a4_10 ?_
  refine z_ldcw C (z := 858993459) wd_149 (by decide +kernel) dJ6_bitCount_0f7a4_11 ?_
  refine z_iand C 2 (by decide +kernel) dJ6_bitCount_0f7a4_14 ?_
  refine z_iload_n C hl 0 rfl dJ6_bitCount_0f7a4_15 ?_
  refine z_iconst C dJ6_bitCount_0f7a4_16 ?_
  refine z_iushr C 2 (by decide +kernel) dJ6_bitCount_0f7a4_17 ?_
  refine z_ldcw C (z := 858993459) wd_149 (by decide +kernel) dJ6_bitCount_0f7a4_18 ?_
  refine z_iand C 2 (by decide +kernel) dJ6_bitCount_0f7a4_21 ?_
  refine z_iadd C dJ6_bitCount_0f7a4_22 ?_
  refine z_istore_n C [0] [(0, .int (iI 4))] hl (by decide) rfl dJ6_bitCount_0f7a4_23 (fun ls hl => ?_)
  refine z_iload_n C hl 0 rfl dJ6_bitCount_0f7a4_24 ?_
  refine z_iload_n C hl 0 rfl dJ6_bitCount_0f7a4_25 ?_
  refine z_iconst C dJ6_bitCount_0f7a4_26 ?_
  refine z_iushr C 0 (by decide +kernel) dJ6_bitCount_0f7a4_27 ?_
  refine z_iadd C dJ6_bitCount_0f7a4_28 ?_
  refine z_ldcw C (z := 252645135) wd_150 (by decide +kernel) dJ6_bitCount_0f7a4_29 ?_
  refine z_iand C 4 (by decide +kernel) dJ6_bitCount_0f7a4_32 ?_
  refine z_istore_n C [0] [(0, .int (iI 4))] hl (by decide) rfl dJ6_bitCount_0f7a4_33 (fun ls hl => ?_)
  refine z_iload_n C hl 0 rfl dJ6_bitCount_0f7a4_34 ?_
  refine z_iload_n C hl 0 rfl dJ6_bitCount_0f7a4_35 ?_
  refine z_bipush C (by decide +kernel) dJ6_bitCount_0f7a4_36 ?_
  refine z_iushr C 0 (by decide +kernel) dJ6_bitCount_0f7a4_38 ?_
  refine z_iadd C dJ6_bitCount_0f7a4_39 ?_
  refine z_istore_n C [0] [(0, .int (iI 4))] hl (by decide) rfl dJ6_bitCount_0f7a4_40 (fun ls hl => ?_)
  refine z_iload_n C hl 0 rfl dJ6_bitCount_0f7a4_41 ?_
  refine z_iload_n C hl 0 rfl dJ6_bitCount_0f7a4_42 ?_
  refine z_bipush C (by decide +kernel) dJ6_bitCount_0f7a4_43 ?_
  refine z_iushr C 0 (by decide +kernel) dJ6_bitCount_0f7a4_45 ?_
  refine z_iadd C dJ6_bitCount_0f7a4_46 ?_
  refine z_istore_n C [0] [(0, .int (iI 4))] hl (by decide) rfl dJ6_bitCount_0f7a4_47 (fun ls hl => ?_)
  refine z_iload_n C hl 0 rfl dJ6_bitCount_0f7a4_48 ?_
  refine z_bipush C (by decide +kernel) dJ6_bitCount_0f7a4_49 ?_
  refine z_iand C 4 (by decide +kernel) dJ6_bitCount_0f7a4_51 ?_
  exact z_retSi C hr hlocks rfl (by decide +kernel) dJ6_bitCount_0f7a4_52

theorem c_J6_bitCount_0f7a4 {l : Launch} {D : va_G} {Y : Nat → ClassId} {a : Int → Nat} (hI : zI a) (σ : zS) (n : Int) (h1 : 0 ≤ n ∧ n ≤ 15) : zMet l yJ6_bitCount_0f7a4 cJ6_bitCount_0f7a4 1 (some .int) 0 (zPc D Y a σ [.int (iI n)]) (zSi (mPop n)) zNo := by
  have h : n = 0 ∨ n = 1 ∨ n = 2 ∨ n = 3 ∨ n = 4 ∨ n = 5 ∨ n = 6 ∨ n = 7 ∨ n = 8 ∨ n = 9 ∨ n = 10 ∨ n = 11 ∨ n = 12 ∨ n = 13 ∨ n = 14 ∨ n = 15 := by omega
  rcases h with rfl | rfl | rfl | rfl | rfl | rfl | rfl | rfl | rfl | rfl | rfl | rfl | rfl | rfl | rfl | rfl
  · exact c_J6_bitCount_0f7a4_0 hI σ
  · exact c_J6_bitCount_0f7a4_1 hI σ
  · exact c_J6_bitCount_0f7a4_2 hI σ
  · exact c_J6_bitCount_0f7a4_3 hI σ
  · exact c_J6_bitCount_0f7a4_4 hI σ
  · exact c_J6_bitCount_0f7a4_5 hI σ
  · exact c_J6_bitCount_0f7a4_6 hI σ
  · exact c_J6_bitCount_0f7a4_7 hI σ
  · exact c_J6_bitCount_0f7a4_8 hI σ
  · exact c_J6_bitCount_0f7a4_9 hI σ
  · exact c_J6_bitCount_0f7a4_10 hI σ
  · exact c_J6_bitCount_0f7a4_11 hI σ
  · exact c_J6_bitCount_0f7a4_12 hI σ
  · exact c_J6_bitCount_0f7a4_13 hI σ
  · exact c_J6_bitCount_0f7a4_14 hI σ
  · exact c_J6_bitCount_0f7a4_15 hI σ
set_option maxRecDepth 20000 in
set_option maxHeartbeats 4000000 in
theorem c_X6_isThere {l : Launch} {D : va_G} {Y : Nat → ClassId} {a : Int → Nat} (hI : zI a) (σ : zS) (rr : Int) (h1 : R3 rr) (hth : ∀ r : Int, 0 ≤ r → r ≤ 3 → σ (40 + r) 0 = 0 ∨ σ (40 + r) 0 = 1) : zMet l yX6_isThere cX6_isThere 2 (some .boolean) 1 (zPc D Y a σ [.ref (a 32), .int (iI rr)]) (zSi (if 0 ≤ rr ∧ rr ≤ 3 ∧ σ (40 + rr) 0 = 1 then (1 : Int) else 0)) zNo := by
  refine z_start rfl (Nat.le_of_ble_eq_true rfl) hI ?_
  intro p e s m below meth c ls C hr hlocks hl hP
  have hl : lv_has ls 2 [(0, .ref (a 32)), (1, .int (iI rr))] := hl
  refine z_iload_n C hl 1 rfl dX6_isThere_0 ?_
  refine z_iconst C dX6_isThere_1 ?_
  refine z_iconst C dX6_isThere_2 ?_
  refine z_nSi C hP (As := [.int (iI rr), .int (iI 0), .int (iI 3)]) lk_X6_69 (c_X7_isWithin hI σ rr 0 3 h1 ⟨by decide, by decide⟩ ⟨by decide, by decide⟩) rfl hl.1 rfl (Nat.le_of_ble_eq_true rfl) ⟨Nat.le_of_ble_eq_true rfl, Nat.le_of_ble_eq_true rfl⟩ ⟨Nat.zero_le _, Nat.zero_le _⟩ dX6_isThere_3 ?_
  by_cases b_3 : 0 ≤ rr ∧ rr ≤ 3
  · rw [show (if 0 ≤ rr ∧ rr ≤ 3 then (1 : Int) else 0) = 1 from if_pos b_3]
    refine z_ifF_eq C 25 dX6_isThere_6 (by decide) ⟨by decide, by decide⟩ (by decide) ?_
    refine z_aload_n C hl 0 rfl dX6_isThere_9 ?_
    refine zg32_X6_11 C hP dX6_isThere_10 ?_
    refine z_iload_n C hl 1 rfl dX6_isThere_13 ?_
    refine z_aldR32 C hP ⟨by omega, by omega⟩ dX6_isThere_14 ?_
    refine zg_X6_73 C hP (by unfold zRid; omega) dX6_isThere_15 ?_
    have hth0 := hth rr (by omega) (by omega)
    refine z_if_eq C 25 dX6_isThere_18 (by decide) ⟨by omega, by omega⟩ (fun c_18 => ?_) (fun c_18 => ?_)
    · refine z_iconst C dX6_isThere_25 ?_
      exact z_retSi C hr hlocks (zNb (by first | omega | (split <;> omega))) (by first | rfl | (rw [if_pos (by omega)]) | (rw [if_neg (by omega)]) | omega) dX6_isThere_26
    · refine z_iconst C dX6_isThere_21 ?_
      refine z_goto C 26 dX6_isThere_22 (by decide) ?_
      exact z_retSi C hr hlocks (zNb (by first | omega | (split <;> omega))) (by first | rfl | (rw [if_pos (by omega)]) | (rw [if_neg (by omega)]) | omega) dX6_isThere_26
  · rw [show (if 0 ≤ rr ∧ rr ≤ 3 then (1 : Int) else 0) = 0 from if_neg b_3]
    refine z_ifT_eq C 25 dX6_isThere_6 (by decide) ⟨by decide, by decide⟩ (by decide) ?_
    refine z_iconst C dX6_isThere_25 ?_
    exact z_retSi C hr hlocks (zNb (by first | omega | (split <;> omega))) (by first | rfl | (rw [if_pos (by omega)]) | (rw [if_neg (by omega)]) | omega) dX6_isThere_26

set_option maxRecDepth 20000 in
set_option maxHeartbeats 4000000 in
theorem c_X6_riderInFront {l : Launch} {D : va_G} {Y : Nat → ClassId} {a : Int → Nat} (hI : zI a) (σ : zS)  (hf : 0 ≤ σ 32 7 ∧ σ 32 7 ≤ 3) : zMet l yX6_riderInFront cX6_riderInFront 1 (some (.object "TandemRide$Rider")) 0 (zPc D Y a σ [.ref (a 32)]) (zSr (a (40 + σ 32 7))) zNo := by
  refine z_start rfl (Nat.le_of_ble_eq_true rfl) hI ?_
  intro p e s m below meth c ls C hr hlocks hl hP
  have hl : lv_has ls 1 [(0, .ref (a 32))] := hl
  refine z_aload_n C hl 0 rfl dX6_riderInFront_0 ?_
  refine zg32_X6_11 C hP dX6_riderInFront_1 ?_
  refine z_aload_n C hl 0 rfl dX6_riderInFront_4 ?_
  refine zg32_X6_36 C hP dX6_riderInFront_5 ?_
  refine z_aldR32 C hP ⟨by omega, by omega⟩ dX6_riderInFront_8 ?_
  exact z_retSr C hr hlocks (by rfl) dX6_riderInFront_9

set_option maxRecDepth 20000 in
set_option maxHeartbeats 4000000 in
theorem c_X6_riderInBack {l : Launch} {D : va_G} {Y : Nat → ClassId} {a : Int → Nat} (hI : zI a) (σ : zS)  (hf : 0 ≤ σ 32 8 ∧ σ 32 8 ≤ 3) : zMet l yX6_riderInBack cX6_riderInBack 1 (some (.object "TandemRide$Rider")) 0 (zPc D Y a σ [.ref (a 32)]) (zSr (a (40 + σ 32 8))) zNo := by
  refine z_start rfl (Nat.le_of_ble_eq_true rfl) hI ?_
  intro p e s m below meth c ls C hr hlocks hl hP
  have hl : lv_has ls 1 [(0, .ref (a 32))] := hl
  refine z_aload_n C hl 0 rfl dX6_riderInBack_0 ?_
  refine zg32_X6_11 C hP dX6_riderInBack_1 ?_
  refine z_aload_n C hl 0 rfl dX6_riderInBack_4 ?_
  refine zg32_X6_40 C hP dX6_riderInBack_5 ?_
  refine z_aldR32 C hP ⟨by omega, by omega⟩ dX6_riderInBack_8 ?_
  exact z_retSr C hr hlocks (by rfl) dX6_riderInBack_9

set_option maxRecDepth 20000 in
set_option maxHeartbeats 4000000 in
theorem c_X6_riderBits {l : Launch} {D : va_G} {Y : Nat → ClassId} {a : Int → Nat} (hI : zI a) (σ : zS)  (ht4 : (σ 40 0 = 0 ∨ σ 40 0 = 1) ∧ (σ 41 0 = 0 ∨ σ 41 0 = 1) ∧ (σ 42 0 = 0 ∨ σ 42 0 = 1) ∧ (σ 43 0 = 0 ∨ σ 43 0 = 1)) : zMet l yX6_riderBits cX6_riderBits 3 (some .int) 0 (zPc D Y a σ [.ref (a 32)]) (zSi (σ 40 0 + 2 * σ 41 0 + 4 * σ 42 0 + 8 * σ 43 0)) zNo := by
  refine z_start rfl (Nat.le_of_ble_eq_true rfl) hI ?_
  intro p e s m below meth c ls C hr hlocks hl hP
  have hl : lv_has ls 3 [(0, .ref (a 32))] := hl
  refine z_iconst C dX6_riderBits_0 ?_
  refine z_istore_n C [1, 0] [(0, .ref (a 32)), (1, .int (iI 0))] hl (by decide) rfl dX6_riderBits_1 (fun ls hl => ?_)
  refine z_iconst C dX6_riderBits_2 ?_
  refine z_istore_n C [1, 2, 0] [(0, .ref (a 32)), (1, .int (iI 0)), (2, .int (iI 0))] hl (by decide) rfl dX6_riderBits_3 (fun ls hl => ?_)
  refine z_iload_n C hl 2 rfl dX6_riderBits_4 ?_
  refine z_iconst C dX6_riderBits_5 ?_
  refine z_icmpF_ge C 33 dX6_riderBits_6 (by decide) ⟨by decide, by decide⟩ ⟨by decide, by decide⟩ (by decide) ?_
  refine z_aload_n C hl 0 rfl dX6_riderBits_9 ?_
  refine zg32_X6_11 C hP dX6_riderBits_10 ?_
  refine z_iload_n C hl 2 rfl dX6_riderBits_13 ?_
  refine z_aldR32 C hP ⟨by omega, by omega⟩ dX6_riderBits_14 ?_
  rw [show (40 : Int) + 0 = 40 from rfl]
  refine zg_X6_73 C hP (by unfold zRid; omega) dX6_riderBits_15 ?_
  refine z_if_eq C 27 dX6_riderBits_18 (by decide) ⟨by omega, by omega⟩ (fun c_18 => ?_) (fun c_18 => ?_)
  · refine z_iinc C 2 [1, 2, 0] [(0, .ref (a 32)), (1, .int (iI 0)), (2, .int (iI 1))] hl rfl (by decide) rfl dX6_riderBits_27 (fun ls hl => ?_)
    refine z_goto C 4 dX6_riderBits_30 (by decide) ?_
    refine z_iload_n C hl 2 rfl dX6_riderBits_4 ?_
    refine z_iconst C dX6_riderBits_5 ?_
    refine z_icmpF_ge C 33 dX6_riderBits_6 (by decide) ⟨by decide, by decide⟩ ⟨by decide, by decide⟩ (by decide) ?_
    refine z_aload_n C hl 0 rfl dX6_riderBits_9 ?_
    refine zg32_X6_11 C hP dX6_riderBits_10 ?_
    refine z_iload_n C hl 2 rfl dX6_riderBits_13 ?_
    refine z_aldR32 C hP ⟨by omega, by omega⟩ dX6_riderBits_14 ?_
    rw [show (40 : Int) + 1 = 41 from rfl]
    refine zg_X6_73 C hP (by unfold zRid; omega) dX6_riderBits_15 ?_
    refine z_if_eq C 27 dX6_riderBits_18 (by decide) ⟨by omega, by omega⟩ (fun c_18 => ?_) (fun c_18 => ?_)
    · refine z_iinc C 2 [1, 2, 0] [(0, .ref (a 32)), (1, .int (iI 0)), (2, .int (iI 2))] hl rfl (by decide) rfl dX6_riderBits_27 (fun ls hl => ?_)
      refine z_goto C 4 dX6_riderBits_30 (by decide) ?_
      refine z_iload_n C hl 2 rfl dX6_riderBits_4 ?_
      refine z_iconst C dX6_riderBits_5 ?_
      refine z_icmpF_ge C 33 dX6_riderBits_6 (by decide) ⟨by decide, by decide⟩ ⟨by decide, by decide⟩ (by decide) ?_
      refine z_aload_n C hl 0 rfl dX6_riderBits_9 ?_
      refine zg32_X6_11 C hP dX6_riderBits_10 ?_
      refine z_iload_n C hl 2 rfl dX6_riderBits_13 ?_
      refine z_aldR32 C hP ⟨by omega, by omega⟩ dX6_riderBits_14 ?_
      rw [show (40 : Int) + 2 = 42 from rfl]
      refine zg_X6_73 C hP (by unfold zRid; omega) dX6_riderBits_15 ?_
      refine z_if_eq C 27 dX6_riderBits_18 (by decide) ⟨by omega, by omega⟩ (fun c_18 => ?_) (fun c_18 => ?_)
      · refine z_iinc C 2 [1, 2, 0] [(0, .ref (a 32)), (1, .int (iI 0)), (2, .int (iI 3))] hl rfl (by decide) rfl dX6_riderBits_27 (fun ls hl => ?_)
        refine z_goto C 4 dX6_riderBits_30 (by decide) ?_
        refine z_iload_n C hl 2 rfl dX6_riderBits_4 ?_
        refine z_iconst C dX6_riderBits_5 ?_
        refine z_icmpF_ge C 33 dX6_riderBits_6 (by decide) ⟨by decide, by decide⟩ ⟨by decide, by decide⟩ (by decide) ?_
        refine z_aload_n C hl 0 rfl dX6_riderBits_9 ?_
        refine zg32_X6_11 C hP dX6_riderBits_10 ?_
        refine z_iload_n C hl 2 rfl dX6_riderBits_13 ?_
        refine z_aldR32 C hP ⟨by omega, by omega⟩ dX6_riderBits_14 ?_
        rw [show (40 : Int) + 3 = 43 from rfl]
        refine zg_X6_73 C hP (by unfold zRid; omega) dX6_riderBits_15 ?_
        refine z_if_eq C 27 dX6_riderBits_18 (by decide) ⟨by omega, by omega⟩ (fun c_18 => ?_) (fun c_18 => ?_)
        · refine z_iinc C 2 [1, 2, 0] [(0, .ref (a 32)), (1, .int (iI 0)), (2, .int (iI 4))] hl rfl (by decide) rfl dX6_riderBits_27 (fun ls hl => ?_)
          refine z_goto C 4 dX6_riderBits_30 (by decide) ?_
          refine z_iload_n C hl 2 rfl dX6_riderBits_4 ?_
          refine z_iconst C dX6_riderBits_5 ?_
          refine z_icmpT_ge C 33 dX6_riderBits_6 (by decide) ⟨by decide, by decide⟩ ⟨by decide, by decide⟩ (by decide) ?_
          refine z_iload_n C hl 1 rfl dX6_riderBits_33 ?_
          exact z_retSi C hr hlocks rfl (by omega) dX6_riderBits_34
        · refine z_iload_n C hl 1 rfl dX6_riderBits_21 ?_
          refine z_iconst C dX6_riderBits_22 ?_
          refine z_iload_n C hl 2 rfl dX6_riderBits_23 ?_
          refine z_ishl C 8 (by decide +kernel) dX6_riderBits_24 ?_
          refine z_ior C 8 (by decide +kernel) dX6_riderBits_25 ?_
          refine z_istore_n C [1, 0, 2] [(0, .ref (a 32)), (1, .int (iI 8)), (2, .int (iI 3))] hl (by decide) rfl dX6_riderBits_26 (fun ls hl => ?_)
          refine z_iinc C 2 [1, 2, 0] [(0, .ref (a 32)), (1, .int (iI 8)), (2, .int (iI 4))] hl rfl (by decide) rfl dX6_riderBits_27 (fun ls hl => ?_)
          refine z_goto C 4 dX6_riderBits_30 (by decide) ?_
          refine z_iload_n C hl 2 rfl dX6_riderBits_4 ?_
          refine z_iconst C dX6_riderBits_5 ?_
          refine z_icmpT_ge C 33 dX6_riderBits_6 (by decide) ⟨by decide, by decide⟩ ⟨by decide, by decide⟩ (by decide) ?_
          refine z_iload_n C hl 1 rfl dX6_riderBits_33 ?_
          exact z_retSi C hr hlocks rfl (by omega) dX6_riderBits_34
      · refine z_iload_n C hl 1 rfl dX6_riderBits_21 ?_
        refine z_iconst C dX6_riderBits_22 ?_
        refine z_iload_n C hl 2 rfl dX6_riderBits_23 ?_
        refine z_ishl C 4 (by decide +kernel) dX6_riderBits_24 ?_
        refine z_ior C 4 (by decide +kernel) dX6_riderBits_25 ?_
        refine z_istore_n C [1, 0, 2] [(0, .ref (a 32)), (1, .int (iI 4)), (2, .int (iI 2))] hl (by decide) rfl dX6_riderBits_26 (fun ls hl => ?_)
        refine z_iinc C 2 [1, 2, 0] [(0, .ref (a 32)), (1, .int (iI 4)), (2, .int (iI 3))] hl rfl (by decide) rfl dX6_riderBits_27 (fun ls hl => ?_)
        refine z_goto C 4 dX6_riderBits_30 (by decide) ?_
        refine z_iload_n C hl 2 rfl dX6_riderBits_4 ?_
        refine z_iconst C dX6_riderBits_5 ?_
        refine z_icmpF_ge C 33 dX6_riderBits_6 (by decide) ⟨by decide, by decide⟩ ⟨by decide, by decide⟩ (by decide) ?_
        refine z_aload_n C hl 0 rfl dX6_riderBits_9 ?_
        refine zg32_X6_11 C hP dX6_riderBits_10 ?_
        refine z_iload_n C hl 2 rfl dX6_riderBits_13 ?_
        refine z_aldR32 C hP ⟨by omega, by omega⟩ dX6_riderBits_14 ?_
        rw [show (40 : Int) + 3 = 43 from rfl]
        refine zg_X6_73 C hP (by unfold zRid; omega) dX6_riderBits_15 ?_
        refine z_if_eq C 27 dX6_riderBits_18 (by decide) ⟨by omega, by omega⟩ (fun c_18 => ?_) (fun c_18 => ?_)
        · refine z_iinc C 2 [1, 2, 0] [(0, .ref (a 32)), (1, .int (iI 4)), (2, .int (iI 4))] hl rfl (by decide) rfl dX6_riderBits_27 (fun ls hl => ?_)
          refine z_goto C 4 dX6_riderBits_30 (by decide) ?_
          refine z_iload_n C hl 2 rfl dX6_riderBits_4 ?_
          refine z_iconst C dX6_riderBits_5 ?_
          refine z_icmpT_ge C 33 dX6_riderBits_6 (by decide) ⟨by decide, by decide⟩ ⟨by decide, by decide⟩ (by decide) ?_
          refine z_iload_n C hl 1 rfl dX6_riderBits_33 ?_
          exact z_retSi C hr hlocks rfl (by omega) dX6_riderBits_34
        · refine z_iload_n C hl 1 rfl dX6_riderBits_21 ?_
          refine z_iconst C dX6_riderBits_22 ?_
          refine z_iload_n C hl 2 rfl dX6_riderBits_23 ?_
          refine z_ishl C 8 (by decide +kernel) dX6_riderBits_24 ?_
          refine z_ior C 12 (by decide +kernel) dX6_riderBits_25 ?_
          refine z_istore_n C [1, 0, 2] [(0, .ref (a 32)), (1, .int (iI 12)), (2, .int (iI 3))] hl (by decide) rfl dX6_riderBits_26 (fun ls hl => ?_)
          refine z_iinc C 2 [1, 2, 0] [(0, .ref (a 32)), (1, .int (iI 12)), (2, .int (iI 4))] hl rfl (by decide) rfl dX6_riderBits_27 (fun ls hl => ?_)
          refine z_goto C 4 dX6_riderBits_30 (by decide) ?_
          refine z_iload_n C hl 2 rfl dX6_riderBits_4 ?_
          refine z_iconst C dX6_riderBits_5 ?_
          refine z_icmpT_ge C 33 dX6_riderBits_6 (by decide) ⟨by decide, by decide⟩ ⟨by decide, by decide⟩ (by decide) ?_
          refine z_iload_n C hl 1 rfl dX6_riderBits_33 ?_
          exact z_retSi C hr hlocks rfl (by omega) dX6_riderBits_34
    · refine z_iload_n C hl 1 rfl dX6_riderBits_21 ?_
      refine z_iconst C dX6_riderBits_22 ?_
      refine z_iload_n C hl 2 rfl dX6_riderBits_23 ?_
      refine z_ishl C 2 (by decide +kernel) dX6_riderBits_24 ?_
      refine z_ior C 2 (by decide +kernel) dX6_riderBits_25 ?_
      refine z_istore_n C [1, 0, 2] [(0, .ref (a 32)), (1, .int (iI 2)), (2, .int (iI 1))] hl (by decide) rfl dX6_riderBits_26 (fun ls hl => ?_)
      refine z_iinc C 2 [1, 2, 0] [(0, .ref (a 32)), (1, .int (iI 2)), (2, .int (iI 2))] hl rfl (by decide) rfl dX6_riderBits_27 (fun ls hl => ?_)
      refine z_goto C 4 dX6_riderBits_30 (by decide) ?_
      refine z_iload_n C hl 2 rfl dX6_riderBits_4 ?_
      refine z_iconst C dX6_riderBits_5 ?_
      refine z_icmpF_ge C 33 dX6_riderBits_6 (by decide) ⟨by decide, by decide⟩ ⟨by decide, by decide⟩ (by decide) ?_
      refine z_aload_n C hl 0 rfl dX6_riderBits_9 ?_
      refine zg32_X6_11 C hP dX6_riderBits_10 ?_
      refine z_iload_n C hl 2 rfl dX6_riderBits_13 ?_
      refine z_aldR32 C hP ⟨by omega, by omega⟩ dX6_riderBits_14 ?_
      rw [show (40 : Int) + 2 = 42 from rfl]
      refine zg_X6_73 C hP (by unfold zRid; omega) dX6_riderBits_15 ?_
      refine z_if_eq C 27 dX6_riderBits_18 (by decide) ⟨by omega, by omega⟩ (fun c_18 => ?_) (fun c_18 => ?_)
      · refine z_iinc C 2 [1, 2, 0] [(0, .ref (a 32)), (1, .int (iI 2)), (2, .int (iI 3))] hl rfl (by decide) rfl dX6_riderBits_27 (fun ls hl => ?_)
        refine z_goto C 4 dX6_riderBits_30 (by decide) ?_
        refine z_iload_n C hl 2 rfl dX6_riderBits_4 ?_
        refine z_iconst C dX6_riderBits_5 ?_
        refine z_icmpF_ge C 33 dX6_riderBits_6 (by decide) ⟨by decide, by decide⟩ ⟨by decide, by decide⟩ (by decide) ?_
        refine z_aload_n C hl 0 rfl dX6_riderBits_9 ?_
        refine zg32_X6_11 C hP dX6_riderBits_10 ?_
        refine z_iload_n C hl 2 rfl dX6_riderBits_13 ?_
        refine z_aldR32 C hP ⟨by omega, by omega⟩ dX6_riderBits_14 ?_
        rw [show (40 : Int) + 3 = 43 from rfl]
        refine zg_X6_73 C hP (by unfold zRid; omega) dX6_riderBits_15 ?_
        refine z_if_eq C 27 dX6_riderBits_18 (by decide) ⟨by omega, by omega⟩ (fun c_18 => ?_) (fun c_18 => ?_)
        · refine z_iinc C 2 [1, 2, 0] [(0, .ref (a 32)), (1, .int (iI 2)), (2, .int (iI 4))] hl rfl (by decide) rfl dX6_riderBits_27 (fun ls hl => ?_)
          refine z_goto C 4 dX6_riderBits_30 (by decide) ?_
          refine z_iload_n C hl 2 rfl dX6_riderBits_4 ?_
          refine z_iconst C dX6_riderBits_5 ?_
          refine z_icmpT_ge C 33 dX6_riderBits_6 (by decide) ⟨by decide, by decide⟩ ⟨by decide, by decide⟩ (by decide) ?_
          refine z_iload_n C hl 1 rfl dX6_riderBits_33 ?_
          exact z_retSi C hr hlocks rfl (by omega) dX6_riderBits_34
        · refine z_iload_n C hl 1 rfl dX6_riderBits_21 ?_
          refine z_iconst C dX6_riderBits_22 ?_
          refine z_iload_n C hl 2 rfl dX6_riderBits_23 ?_
          refine z_ishl C 8 (by decide +kernel) dX6_riderBits_24 ?_
          refine z_ior C 10 (by decide +kernel) dX6_riderBits_25 ?_
          refine z_istore_n C [1, 0, 2] [(0, .ref (a 32)), (1, .int (iI 10)), (2, .int (iI 3))] hl (by decide) rfl dX6_riderBits_26 (fun ls hl => ?_)
          refine z_iinc C 2 [1, 2, 0] [(0, .ref (a 32)), (1, .int (iI 10)), (2, .int (iI 4))] hl rfl (by decide) rfl dX6_riderBits_27 (fun ls hl => ?_)
          refine z_goto C 4 dX6_riderBits_30 (by decide) ?_
          refine z_iload_n C hl 2 rfl dX6_riderBits_4 ?_
          refine z_iconst C dX6_riderBits_5 ?_
          refine z_icmpT_ge C 33 dX6_riderBits_6 (by decide) ⟨by decide, by decide⟩ ⟨by decide, by decide⟩ (by decide) ?_
          refine z_iload_n C hl 1 rfl dX6_riderBits_33 ?_
          exact z_retSi C hr hlocks rfl (by omega) dX6_riderBits_34
      · refine z_iload_n C hl 1 rfl dX6_riderBits_21 ?_
        refine z_iconst C dX6_riderBits_22 ?_
        refine z_iload_n C hl 2 rfl dX6_riderBits_23 ?_
        refine z_ishl C 4 (by decide +kernel) dX6_riderBits_24 ?_
        refine z_ior C 6 (by decide +kernel) dX6_riderBits_25 ?_
        refine z_istore_n C [1, 0, 2] [(0, .ref (a 32)), (1, .int (iI 6)), (2, .int (iI 2))] hl (by decide) rfl dX6_riderBits_26 (fun ls hl => ?_)
        refine z_iinc C 2 [1, 2, 0] [(0, .ref (a 32)), (1, .int (iI 6)), (2, .int (iI 3))] hl rfl (by decide) rfl dX6_riderBits_27 (fun ls hl => ?_)
        refine z_goto C 4 dX6_riderBits_30 (by decide) ?_
        refine z_iload_n C hl 2 rfl dX6_riderBits_4 ?_
        refine z_iconst C dX6_riderBits_5 ?_
        refine z_icmpF_ge C 33 dX6_riderBits_6 (by decide) ⟨by decide, by decide⟩ ⟨by decide, by decide⟩ (by decide) ?_
        refine z_aload_n C hl 0 rfl dX6_riderBits_9 ?_
        refine zg32_X6_11 C hP dX6_riderBits_10 ?_
        refine z_iload_n C hl 2 rfl dX6_riderBits_13 ?_
        refine z_aldR32 C hP ⟨by omega, by omega⟩ dX6_riderBits_14 ?_
        rw [show (40 : Int) + 3 = 43 from rfl]
        refine zg_X6_73 C hP (by unfold zRid; omega) dX6_riderBits_15 ?_
        refine z_if_eq C 27 dX6_riderBits_18 (by decide) ⟨by omega, by omega⟩ (fun c_18 => ?_) (fun c_18 => ?_)
        · refine z_iinc C 2 [1, 2, 0] [(0, .ref (a 32)), (1, .int (iI 6)), (2, .int (iI 4))] hl rfl (by decide) rfl dX6_riderBits_27 (fun ls hl => ?_)
          refine z_goto C 4 dX6_riderBits_30 (by decide) ?_
          refine z_iload_n C hl 2 rfl dX6_riderBits_4 ?_
          refine z_iconst C dX6_riderBits_5 ?_
          refine z_icmpT_ge C 33 dX6_riderBits_6 (by decide) ⟨by decide, by decide⟩ ⟨by decide, by decide⟩ (by decide) ?_
          refine z_iload_n C hl 1 rfl dX6_riderBits_33 ?_
          exact z_retSi C hr hlocks rfl (by omega) dX6_riderBits_34
        · refine z_iload_n C hl 1 rfl dX6_riderBits_21 ?_
          refine z_iconst C dX6_riderBits_22 ?_
          refine z_iload_n C hl 2 rfl dX6_riderBits_23 ?_
          refine z_ishl C 8 (by decide +kernel) dX6_riderBits_24 ?_
          refine z_ior C 14 (by decide +kernel) dX6_riderBits_25 ?_
          refine z_istore_n C [1, 0, 2] [(0, .ref (a 32)), (1, .int (iI 14)), (2, .int (iI 3))] hl (by decide) rfl dX6_riderBits_26 (fun ls hl => ?_)
          refine z_iinc C 2 [1, 2, 0] [(0, .ref (a 32)), (1, .int (iI 14)), (2, .int (iI 4))] hl rfl (by decide) rfl dX6_riderBits_27 (fun ls hl => ?_)
          refine z_goto C 4 dX6_riderBits_30 (by decide) ?_
          refine z_iload_n C hl 2 rfl dX6_riderBits_4 ?_
          refine z_iconst C dX6_riderBits_5 ?_
          refine z_icmpT_ge C 33 dX6_riderBits_6 (by decide) ⟨by decide, by decide⟩ ⟨by decide, by decide⟩ (by decide) ?_
          refine z_iload_n C hl 1 rfl dX6_riderBits_33 ?_
          exact z_retSi C hr hlocks rfl (by omega) dX6_riderBits_34
  · refine z_iload_n C hl 1 rfl dX6_riderBits_21 ?_
    refine z_iconst C dX6_riderBits_22 ?_
    refine z_iload_n C hl 2 rfl dX6_riderBits_23 ?_
    refine z_ishl C 1 (by decide +kernel) dX6_riderBits_24 ?_
    refine z_ior C 1 (by decide +kernel) dX6_riderBits_25 ?_
    refine z_istore_n C [1, 0, 2] [(0, .ref (a 32)), (1, .int (iI 1)), (2, .int (iI 0))] hl (by decide) rfl dX6_riderBits_26 (fun ls hl => ?_)
    refine z_iinc C 2 [1, 2, 0] [(0, .ref (a 32)), (1, .int (iI 1)), (2, .int (iI 1))] hl rfl (by decide) rfl dX6_riderBits_27 (fun ls hl => ?_)
    refine z_goto C 4 dX6_riderBits_30 (by decide) ?_
    refine z_iload_n C hl 2 rfl dX6_riderBits_4 ?_
    refine z_iconst C dX6_riderBits_5 ?_
    refine z_icmpF_ge C 33 dX6_riderBits_6 (by decide) ⟨by decide, by decide⟩ ⟨by decide, by decide⟩ (by decide) ?_
    refine z_aload_n C hl 0 rfl dX6_riderBits_9 ?_
    refine zg32_X6_11 C hP dX6_riderBits_10 ?_
    refine z_iload_n C hl 2 rfl dX6_riderBits_13 ?_
    refine z_aldR32 C hP ⟨by omega, by omega⟩ dX6_riderBits_14 ?_
    rw [show (40 : Int) + 1 = 41 from rfl]
    refine zg_X6_73 C hP (by unfold zRid; omega) dX6_riderBits_15 ?_
    refine z_if_eq C 27 dX6_riderBits_18 (by decide) ⟨by omega, by omega⟩ (fun c_18 => ?_) (fun c_18 => ?_)
    · refine z_iinc C 2 [1, 2, 0] [(0, .ref (a 32)), (1, .int (iI 1)), (2, .int (iI 2))] hl rfl (by decide) rfl dX6_riderBits_27 (fun ls hl => ?_)
      refine z_goto C 4 dX6_riderBits_30 (by decide) ?_
      refine z_iload_n C hl 2 rfl dX6_riderBits_4 ?_
      refine z_iconst C dX6_riderBits_5 ?_
      refine z_icmpF_ge C 33 dX6_riderBits_6 (by decide) ⟨by decide, by decide⟩ ⟨by decide, by decide⟩ (by decide) ?_
      refine z_aload_n C hl 0 rfl dX6_riderBits_9 ?_
      refine zg32_X6_11 C hP dX6_riderBits_10 ?_
      refine z_iload_n C hl 2 rfl dX6_riderBits_13 ?_
      refine z_aldR32 C hP ⟨by omega, by omega⟩ dX6_riderBits_14 ?_
      rw [show (40 : Int) + 2 = 42 from rfl]
      refine zg_X6_73 C hP (by unfold zRid; omega) dX6_riderBits_15 ?_
      refine z_if_eq C 27 dX6_riderBits_18 (by decide) ⟨by omega, by omega⟩ (fun c_18 => ?_) (fun c_18 => ?_)
      · refine z_iinc C 2 [1, 2, 0] [(0, .ref (a 32)), (1, .int (iI 1)), (2, .int (iI 3))] hl rfl (by decide) rfl dX6_riderBits_27 (fun ls hl => ?_)
        refine z_goto C 4 dX6_riderBits_30 (by decide) ?_
        refine z_iload_n C hl 2 rfl dX6_riderBits_4 ?_
        refine z_iconst C dX6_riderBits_5 ?_
        refine z_icmpF_ge C 33 dX6_riderBits_6 (by decide) ⟨by decide, by decide⟩ ⟨by decide, by decide⟩ (by decide) ?_
        refine z_aload_n C hl 0 rfl dX6_riderBits_9 ?_
        refine zg32_X6_11 C hP dX6_riderBits_10 ?_
        refine z_iload_n C hl 2 rfl dX6_riderBits_13 ?_
        refine z_aldR32 C hP ⟨by omega, by omega⟩ dX6_riderBits_14 ?_
        rw [show (40 : Int) + 3 = 43 from rfl]
        refine zg_X6_73 C hP (by unfold zRid; omega) dX6_riderBits_15 ?_
        refine z_if_eq C 27 dX6_riderBits_18 (by decide) ⟨by omega, by omega⟩ (fun c_18 => ?_) (fun c_18 => ?_)
        · refine z_iinc C 2 [1, 2, 0] [(0, .ref (a 32)), (1, .int (iI 1)), (2, .int (iI 4))] hl rfl (by decide) rfl dX6_riderBits_27 (fun ls hl => ?_)
          refine z_goto C 4 dX6_riderBits_30 (by decide) ?_
          refine z_iload_n C hl 2 rfl dX6_riderBits_4 ?_
          refine z_iconst C dX6_riderBits_5 ?_
          refine z_icmpT_ge C 33 dX6_riderBits_6 (by decide) ⟨by decide, by decide⟩ ⟨by decide, by decide⟩ (by decide) ?_
          refine z_iload_n C hl 1 rfl dX6_riderBits_33 ?_
          exact z_retSi C hr hlocks rfl (by omega) dX6_riderBits_34
        · refine z_iload_n C hl 1 rfl dX6_riderBits_21 ?_
          refine z_iconst C dX6_riderBits_22 ?_
          refine z_iload_n C hl 2 rfl dX6_riderBits_23 ?_
          refine z_ishl C 8 (by decide +kernel) dX6_riderBits_24 ?_
          refine z_ior C 9 (by decide +kernel) dX6_riderBits_25 ?_
          refine z_istore_n C [1, 0, 2] [(0, .ref (a 32)), (1, .int (iI 9)), (2, .int (iI 3))] hl (by decide) rfl dX6_riderBits_26 (fun ls hl => ?_)
          refine z_iinc C 2 [1, 2, 0] [(0, .ref (a 32)), (1, .int (iI 9)), (2, .int (iI 4))] hl rfl (by decide) rfl dX6_riderBits_27 (fun ls hl => ?_)
          refine z_goto C 4 dX6_riderBits_30 (by decide) ?_
          refine z_iload_n C hl 2 rfl dX6_riderBits_4 ?_
          refine z_iconst C dX6_riderBits_5 ?_
          refine z_icmpT_ge C 33 dX6_riderBits_6 (by decide) ⟨by decide, by decide⟩ ⟨by decide, by decide⟩ (by decide) ?_
          refine z_iload_n C hl 1 rfl dX6_riderBits_33 ?_
          exact z_retSi C hr hlocks rfl (by omega) dX6_riderBits_34
      · refine z_iload_n C hl 1 rfl dX6_riderBits_21 ?_
        refine z_iconst C dX6_riderBits_22 ?_
        refine z_iload_n C hl 2 rfl dX6_riderBits_23 ?_
        refine z_ishl C 4 (by decide +kernel) dX6_riderBits_24 ?_
        refine z_ior C 5 (by decide +kernel) dX6_riderBits_25 ?_
        refine z_istore_n C [1, 0, 2] [(0, .ref (a 32)), (1, .int (iI 5)), (2, .int (iI 2))] hl (by decide) rfl dX6_riderBits_26 (fun ls hl => ?_)
        refine z_iinc C 2 [1, 2, 0] [(0, .ref (a 32)), (1, .int (iI 5)), (2, .int (iI 3))] hl rfl (by decide) rfl dX6_riderBits_27 (fun ls hl => ?_)
        refine z_goto C 4 dX6_riderBits_30 (by decide) ?_
        refine z_iload_n C hl 2 rfl dX6_riderBits_4 ?_
        refine z_iconst C dX6_riderBits_5 ?_
        refine z_icmpF_ge C 33 dX6_riderBits_6 (by decide) ⟨by decide, by decide⟩ ⟨by decide, by decide⟩ (by decide) ?_
        refine z_aload_n C hl 0 rfl dX6_riderBits_9 ?_
        refine zg32_X6_11 C hP dX6_riderBits_10 ?_
        refine z_iload_n C hl 2 rfl dX6_riderBits_13 ?_
        refine z_aldR32 C hP ⟨by omega, by omega⟩ dX6_riderBits_14 ?_
        rw [show (40 : Int) + 3 = 43 from rfl]
        refine zg_X6_73 C hP (by unfold zRid; omega) dX6_riderBits_15 ?_
        refine z_if_eq C 27 dX6_riderBits_18 (by decide) ⟨by omega, by omega⟩ (fun c_18 => ?_) (fun c_18 => ?_)
        · refine z_iinc C 2 [1, 2, 0] [(0, .ref (a 32)), (1, .int (iI 5)), (2, .int (iI 4))] hl rfl (by decide) rfl dX6_riderBits_27 (fun ls hl => ?_)
          refine z_goto C 4 dX6_riderBits_30 (by decide) ?_
          refine z_iload_n C hl 2 rfl dX6_riderBits_4 ?_
          refine z_iconst C dX6_riderBits_5 ?_
          refine z_icmpT_ge C 33 dX6_riderBits_6 (by decide) ⟨by decide, by decide⟩ ⟨by decide, by decide⟩ (by decide) ?_
          refine z_iload_n C hl 1 rfl dX6_riderBits_33 ?_
          exact z_retSi C hr hlocks rfl (by omega) dX6_riderBits_34
        · refine z_iload_n C hl 1 rfl dX6_riderBits_21 ?_
          refine z_iconst C dX6_riderBits_22 ?_
          refine z_iload_n C hl 2 rfl dX6_riderBits_23 ?_
          refine z_ishl C 8 (by decide +kernel) dX6_riderBits_24 ?_
          refine z_ior C 13 (by decide +kernel) dX6_riderBits_25 ?_
          refine z_istore_n C [1, 0, 2] [(0, .ref (a 32)), (1, .int (iI 13)), (2, .int (iI 3))] hl (by decide) rfl dX6_riderBits_26 (fun ls hl => ?_)
          refine z_iinc C 2 [1, 2, 0] [(0, .ref (a 32)), (1, .int (iI 13)), (2, .int (iI 4))] hl rfl (by decide) rfl dX6_riderBits_27 (fun ls hl => ?_)
          refine z_goto C 4 dX6_riderBits_30 (by decide) ?_
          refine z_iload_n C hl 2 rfl dX6_riderBits_4 ?_
          refine z_iconst C dX6_riderBits_5 ?_
          refine z_icmpT_ge C 33 dX6_riderBits_6 (by decide) ⟨by decide, by decide⟩ ⟨by decide, by decide⟩ (by decide) ?_
          refine z_iload_n C hl 1 rfl dX6_riderBits_33 ?_
          exact z_retSi C hr hlocks rfl (by omega) dX6_riderBits_34
    · refine z_iload_n C hl 1 rfl dX6_riderBits_21 ?_
      refine z_iconst C dX6_riderBits_22 ?_
      refine z_iload_n C hl 2 rfl dX6_riderBits_23 ?_
      refine z_ishl C 2 (by decide +kernel) dX6_riderBits_24 ?_
      refine z_ior C 3 (by decide +kernel) dX6_riderBits_25 ?_
      refine z_istore_n C [1, 0, 2] [(0, .ref (a 32)), (1, .int (iI 3)), (2, .int (iI 1))] hl (by decide) rfl dX6_riderBits_26 (fun ls hl => ?_)
      refine z_iinc C 2 [1, 2, 0] [(0, .ref (a 32)), (1, .int (iI 3)), (2, .int (iI 2))] hl rfl (by decide) rfl dX6_riderBits_27 (fun ls hl => ?_)
      refine z_goto C 4 dX6_riderBits_30 (by decide) ?_
      refine z_iload_n C hl 2 rfl dX6_riderBits_4 ?_
      refine z_iconst C dX6_riderBits_5 ?_
      refine z_icmpF_ge C 33 dX6_riderBits_6 (by decide) ⟨by decide, by decide⟩ ⟨by decide, by decide⟩ (by decide) ?_
      refine z_aload_n C hl 0 rfl dX6_riderBits_9 ?_
      refine zg32_X6_11 C hP dX6_riderBits_10 ?_
      refine z_iload_n C hl 2 rfl dX6_riderBits_13 ?_
      refine z_aldR32 C hP ⟨by omega, by omega⟩ dX6_riderBits_14 ?_
      rw [show (40 : Int) + 2 = 42 from rfl]
      refine zg_X6_73 C hP (by unfold zRid; omega) dX6_riderBits_15 ?_
      refine z_if_eq C 27 dX6_riderBits_18 (by decide) ⟨by omega, by omega⟩ (fun c_18 => ?_) (fun c_18 => ?_)
      · refine z_iinc C 2 [1, 2, 0] [(0, .ref (a 32)), (1, .int (iI 3)), (2, .int (iI 3))] hl rfl (by decide) rfl dX6_riderBits_27 (fun ls hl => ?_)
        refine z_goto C 4 dX6_riderBits_30 (by decide) ?_
        refine z_iload_n C hl 2 rfl dX6_riderBits_4 ?_
        refine z_iconst C dX6_riderBits_5 ?_
        refine z_icmpF_ge C 33 dX6_riderBits_6 (by decide) ⟨by decide, by decide⟩ ⟨by decide, by decide⟩ (by decide) ?_
        refine z_aload_n C hl 0 rfl dX6_riderBits_9 ?_
        refine zg32_X6_11 C hP dX6_riderBits_10 ?_
        refine z_iload_n C hl 2 rfl dX6_riderBits_13 ?_
        refine z_aldR32 C hP ⟨by omega, by omega⟩ dX6_riderBits_14 ?_
        rw [show (40 : Int) + 3 = 43 from rfl]
        refine zg_X6_73 C hP (by unfold zRid; omega) dX6_riderBits_15 ?_
        refine z_if_eq C 27 dX6_riderBits_18 (by decide) ⟨by omega, by omega⟩ (fun c_18 => ?_) (fun c_18 => ?_)
        · refine z_iinc C 2 [1, 2, 0] [(0, .ref (a 32)), (1, .int (iI 3)), (2, .int (iI 4))] hl rfl (by decide) rfl dX6_riderBits_27 (fun ls hl => ?_)
          refine z_goto C 4 dX6_riderBits_30 (by decide) ?_
          refine z_iload_n C hl 2 rfl dX6_riderBits_4 ?_
          refine z_iconst C dX6_riderBits_5 ?_
          refine z_icmpT_ge C 33 dX6_riderBits_6 (by decide) ⟨by decide, by decide⟩ ⟨by decide, by decide⟩ (by decide) ?_
          refine z_iload_n C hl 1 rfl dX6_riderBits_33 ?_
          exact z_retSi C hr hlocks rfl (by omega) dX6_riderBits_34
        · refine z_iload_n C hl 1 rfl dX6_riderBits_21 ?_
          refine z_iconst C dX6_riderBits_22 ?_
          refine z_iload_n C hl 2 rfl dX6_riderBits_23 ?_
          refine z_ishl C 8 (by decide +kernel) dX6_riderBits_24 ?_
          refine z_ior C 11 (by decide +kernel) dX6_riderBits_25 ?_
          refine z_istore_n C [1, 0, 2] [(0, .ref (a 32)), (1, .int (iI 11)), (2, .int (iI 3))] hl (by decide) rfl dX6_riderBits_26 (fun ls hl => ?_)
          refine z_iinc C 2 [1, 2, 0] [(0, .ref (a 32)), (1, .int (iI 11)), (2, .int (iI 4))] hl rfl (by decide) rfl dX6_riderBits_27 (fun ls hl => ?_)
          refine z_goto C 4 dX6_riderBits_30 (by decide) ?_
          refine z_iload_n C hl 2 rfl dX6_riderBits_4 ?_
          refine z_iconst C dX6_riderBits_5 ?_
          refine z_icmpT_ge C 33 dX6_riderBits_6 (by decide) ⟨by decide, by decide⟩ ⟨by decide, by decide⟩ (by decide) ?_
          refine z_iload_n C hl 1 rfl dX6_riderBits_33 ?_
          exact z_retSi C hr hlocks rfl (by omega) dX6_riderBits_34
      · refine z_iload_n C hl 1 rfl dX6_riderBits_21 ?_
        refine z_iconst C dX6_riderBits_22 ?_
        refine z_iload_n C hl 2 rfl dX6_riderBits_23 ?_
        refine z_ishl C 4 (by decide +kernel) dX6_riderBits_24 ?_
        refine z_ior C 7 (by decide +kernel) dX6_riderBits_25 ?_
        refine z_istore_n C [1, 0, 2] [(0, .ref (a 32)), (1, .int (iI 7)), (2, .int (iI 2))] hl (by decide) rfl dX6_riderBits_26 (fun ls hl => ?_)
        refine z_iinc C 2 [1, 2, 0] [(0, .ref (a 32)), (1, .int (iI 7)), (2, .int (iI 3))] hl rfl (by decide) rfl dX6_riderBits_27 (fun ls hl => ?_)
        refine z_goto C 4 dX6_riderBits_30 (by decide) ?_
        refine z_iload_n C hl 2 rfl dX6_riderBits_4 ?_
        refine z_iconst C dX6_riderBits_5 ?_
        refine z_icmpF_ge C 33 dX6_riderBits_6 (by decide) ⟨by decide, by decide⟩ ⟨by decide, by decide⟩ (by decide) ?_
        refine z_aload_n C hl 0 rfl dX6_riderBits_9 ?_
        refine zg32_X6_11 C hP dX6_riderBits_10 ?_
        refine z_iload_n C hl 2 rfl dX6_riderBits_13 ?_
        refine z_aldR32 C hP ⟨by omega, by omega⟩ dX6_riderBits_14 ?_
        rw [show (40 : Int) + 3 = 43 from rfl]
        refine zg_X6_73 C hP (by unfold zRid; omega) dX6_riderBits_15 ?_
        refine z_if_eq C 27 dX6_riderBits_18 (by decide) ⟨by omega, by omega⟩ (fun c_18 => ?_) (fun c_18 => ?_)
        · refine z_iinc C 2 [1, 2, 0] [(0, .ref (a 32)), (1, .int (iI 7)), (2, .int (iI 4))] hl rfl (by decide) rfl dX6_riderBits_27 (fun ls hl => ?_)
          refine z_goto C 4 dX6_riderBits_30 (by decide) ?_
          refine z_iload_n C hl 2 rfl dX6_riderBits_4 ?_
          refine z_iconst C dX6_riderBits_5 ?_
          refine z_icmpT_ge C 33 dX6_riderBits_6 (by decide) ⟨by decide, by decide⟩ ⟨by decide, by decide⟩ (by decide) ?_
          refine z_iload_n C hl 1 rfl dX6_riderBits_33 ?_
          exact z_retSi C hr hlocks rfl (by omega) dX6_riderBits_34
        · refine z_iload_n C hl 1 rfl dX6_riderBits_21 ?_
          refine z_iconst C dX6_riderBits_22 ?_
          refine z_iload_n C hl 2 rfl dX6_riderBits_23 ?_
          refine z_ishl C 8 (by decide +kernel) dX6_riderBits_24 ?_
          refine z_ior C 15 (by decide +kernel) dX6_riderBits_25 ?_
          refine z_istore_n C [1, 0, 2] [(0, .ref (a 32)), (1, .int (iI 15)), (2, .int (iI 3))] hl (by decide) rfl dX6_riderBits_26 (fun ls hl => ?_)
          refine z_iinc C 2 [1, 2, 0] [(0, .ref (a 32)), (1, .int (iI 15)), (2, .int (iI 4))] hl rfl (by decide) rfl dX6_riderBits_27 (fun ls hl => ?_)
          refine z_goto C 4 dX6_riderBits_30 (by decide) ?_
          refine z_iload_n C hl 2 rfl dX6_riderBits_4 ?_
          refine z_iconst C dX6_riderBits_5 ?_
          refine z_icmpT_ge C 33 dX6_riderBits_6 (by decide) ⟨by decide, by decide⟩ ⟨by decide, by decide⟩ (by decide) ?_
          refine z_iload_n C hl 1 rfl dX6_riderBits_33 ?_
          exact z_retSi C hr hlocks rfl (by omega) dX6_riderBits_34

set_option maxRecDepth 20000 in
set_option maxHeartbeats 4000000 in
theorem c_X6_ridersThere {l : Launch} {D : va_G} {Y : Nat → ClassId} {a : Int → Nat} (hI : zI a) (σ : zS)  (ht4 : (σ 40 0 = 0 ∨ σ 40 0 = 1) ∧ (σ 41 0 = 0 ∨ σ 41 0 = 1) ∧ (σ 42 0 = 0 ∨ σ 42 0 = 1) ∧ (σ 43 0 = 0 ∨ σ 43 0 = 1)) : zMet l yX6_ridersThere cX6_ridersThere 1 (some .int) 1 (zPc D Y a σ [.ref (a 32)]) (zSi (mPop (σ 40 0 + 2 * σ 41 0 + 4 * σ 42 0 + 8 * σ 43 0))) zNo := by
  refine z_start rfl (Nat.le_of_ble_eq_true rfl) hI ?_
  intro p e s m below meth c ls C hr hlocks hl hP
  have hl : lv_has ls 1 [(0, .ref (a 32))] := hl
  refine z_aload_n C hl 0 rfl dX6_ridersThere_0 ?_
  refine z_vSi C hP (As := []) lk_X6_77 (c_X6_riderBits hI σ  (by omega)) (ob_set (by unfold zSet; omega)) rfl rfl rfl hl.1 rfl (Nat.le_of_ble_eq_true rfl) ⟨Nat.le_of_ble_eq_true rfl, Nat.le_of_ble_eq_true rfl⟩ ⟨Nat.zero_le _, Nat.zero_le _⟩ dX6_ridersThere_1 ?_
  refine z_sSi C hP (As := [.int (iI (σ 40 0 + 2 * σ 41 0 + 4 * σ 42 0 + 8 * σ 43 0))]) lk_X6_81 (c_J6_bitCount_0f7a4 hI σ (σ 40 0 + 2 * σ 41 0 + 4 * σ 42 0 + 8 * σ 43 0) (by omega)) rfl hl.1 rfl (Nat.le_of_ble_eq_true rfl) ⟨Nat.le_of_ble_eq_true rfl, Nat.le_of_ble_eq_true rfl⟩ ⟨Nat.zero_le _, Nat.zero_le _⟩ dX6_ridersThere_4 ?_
  exact z_retSi C hr hlocks rfl (by rfl) dX6_ridersThere_7

set_option maxRecDepth 20000 in
set_option maxHeartbeats 4000000 in
theorem c_X6_secondsTogether {l : Launch} {D : va_G} {Y : Nat → ClassId} {a : Int → Nat} (hI : zI a) (σ : zS) (treads : Int) (hn : 1 ≤ σ 32 12 ∧ σ 32 12 ≤ 24) (hg : ∀ i : Int, 0 ≤ i → i < 24 → -1 ≤ σ 35 i ∧ σ 35 i ≤ 6) (ht : 0 ≤ treads ∧ treads ≤ 1000) : zMet l yX6_secondsTogether cX6_secondsTogether 4 (some .int) 2 (zPc D Y a σ [.ref (a 32), .int (iI treads)]) (zSi (mSum (fun i => mSec (mHard (σ 35 i)) treads) (σ 32 12).toNat)) zNo := by
  refine z_start rfl (Nat.le_of_ble_eq_true rfl) hI ?_
  intro p e s m below meth c ls C hr hlocks hl hP
  have hl : lv_has ls 4 [(0, .ref (a 32)), (1, .int (iI treads))] := hl
  refine z_iconst C dX6_secondsTogether_0 ?_
  refine z_istore_n C [1, 2, 0] [(0, .ref (a 32)), (1, .int (iI treads)), (2, .int (iI 0))] hl (by decide) rfl dX6_secondsTogether_1 (fun ls hl => ?_)
  refine z_iconst C dX6_secondsTogether_2 ?_
  refine z_istore_n C [1, 2, 3, 0] [(0, .ref (a 32)), (1, .int (iI treads)), (2, .int (iI 0)), (3, .int (iI 0))] hl (by decide) rfl dX6_secondsTogether_3 (fun ls hl => ?_)
  have L_4 : ∀ (n : Nat) (sm : Int) (i : Int) (ls : Array Slot), (0 ≤ i ∧ i ≤ σ 32 12) → (sm = mSum (fun i => mSec (mHard (σ 35 i)) treads) i.toNat) → (0 ≤ sm ∧ sm ≤ 241 * i) → ((σ 32 12 - i).toNat) < n → lv_has ls 4 [(0, .ref (a 32)), (1, .int (iI treads)), (2, .int (iI sm)), (3, .int (iI i))] → W p l e (zR 2) s m ([.ref (a 32), .int (iI treads)] : List Value).toArray below meth c s.heap [] 0 0 (MQ below (zSi (mSum (fun i => mSec (mHard (σ 35 i)) treads) (σ 32 12).toNat)) ([.ref (a 32), .int (iI treads)] : List Value).toArray s 0 0 zNo) (F0 m 4 ls []) := by
    intro n
    induction n with
    | zero =>
      intros; omega
    | succ n ih_4 =>
      intro sm i ls hi hv hs hm hl
      refine z_iload_n C hl 3 rfl dX6_secondsTogether_4 ?_
      refine z_aload_n C hl 0 rfl dX6_secondsTogether_5 ?_
      refine zg32_X6_52 C hP dX6_secondsTogether_6 ?_
      refine z_icmp_ge C 34 dX6_secondsTogether_9 (by decide) ⟨by omega, by omega⟩ ⟨by omega, by omega⟩ (fun c_9 => ?_) (fun c_9 => ?_)
      · refine z_iload_n C hl 2 rfl dX6_secondsTogether_34 ?_
        exact z_retSi C hr hlocks rfl (by rw [hv, show i = σ 32 12 by omega]) dX6_secondsTogether_35
      · have hgi := hg i (by omega) (by omega)
        have hh := mHard_b (σ 35 i)
        have hq := mSec_b (h := mHard (σ 35 i)) (t := treads) (by omega)
        refine z_iload_n C hl 2 rfl dX6_secondsTogether_12 ?_
        refine z_aload_n C hl 0 rfl dX6_secondsTogether_13 ?_
        refine zg32_X6_21 C hP dX6_secondsTogether_14 ?_
        refine z_iload_n C hl 3 rfl dX6_secondsTogether_17 ?_
        refine z_iald C hP ia_35 ⟨by omega, by omega⟩ dX6_secondsTogether_18 ?_
        refine z_sSi C hP (As := [.int (iI (σ 35 i))]) lk_X6_112 (c_X0_hardOf hI σ (σ 35 i) (by omega)) rfl hl.1 rfl (Nat.le_of_ble_eq_true rfl) ⟨Nat.le_of_ble_eq_true rfl, Nat.le_of_ble_eq_true rfl⟩ ⟨Nat.zero_le _, Nat.zero_le _⟩ dX6_secondsTogether_19 ?_
        refine z_iload_n C hl 1 rfl dX6_secondsTogether_22 ?_
        refine z_sSi C hP (As := [.int (iI (mHard (σ 35 i))), .int (iI treads)]) lk_X6_115 (c_X0_secondsOf hI σ (mHard (σ 35 i)) treads (by omega) (by omega)) rfl hl.1 rfl (Nat.le_of_ble_eq_true rfl) ⟨Nat.le_of_ble_eq_true rfl, Nat.le_of_ble_eq_true rfl⟩ ⟨Nat.zero_le _, Nat.zero_le _⟩ dX6_secondsTogether_23 ?_
        refine z_iadd C dX6_secondsTogether_26 ?_
        refine z_topi (fun x1 hx1 => ?_)
        refine z_istore_n C [1, 2, 0, 3] [(0, .ref (a 32)), (1, .int (iI treads)), (2, .int (iI x1)), (3, .int (iI i))] hl (by decide) rfl dX6_secondsTogether_27 (fun ls hl => ?_)
        refine z_iinc C 3 [1, 2, 3, 0] [(0, .ref (a 32)), (1, .int (iI treads)), (2, .int (iI x1)), (3, .int (iI (i + 1)))] hl rfl (by decide) rfl dX6_secondsTogether_28 (fun ls hl => ?_)
        refine z_goto C 4 dX6_secondsTogether_31 (by decide) ?_
        exact ih_4 x1 (i + 1) ls (by omega) (by rw [mSum_s _ (by omega)]; omega) (by omega) (by omega) (lv_sub hl [0, 1, 2, 3] rfl)
  exact L_4 _ 0 0 ls (by omega) (by rfl) (by omega) (Nat.lt_succ_self _) (lv_sub hl [0, 1, 2, 3] rfl)

set_option maxRecDepth 20000 in
set_option maxHeartbeats 4000000 in
theorem c_X6_secondsAlone {l : Launch} {D : va_G} {Y : Nat → ClassId} {a : Int → Nat} (hI : zI a) (σ : zS) (treads : Int) (hn : 1 ≤ σ 32 12 ∧ σ 32 12 ≤ 24) (hg : ∀ i : Int, 0 ≤ i → i < 24 → -1 ≤ σ 35 i ∧ σ 35 i ≤ 6) (ht : 0 ≤ treads ∧ treads ≤ 1000) : zMet l yX6_secondsAlone cX6_secondsAlone 4 (some .int) 2 (zPc D Y a σ [.ref (a 32), .int (iI treads)]) (zSi (mSum (fun i => mSec (mHard (σ 35 i) / 2) treads) (σ 32 12).toNat)) zNo := by
  refine z_start rfl (Nat.le_of_ble_eq_true rfl) hI ?_
  intro p e s m below meth c ls C hr hlocks hl hP
  have hl : lv_has ls 4 [(0, .ref (a 32)), (1, .int (iI treads))] := hl
  refine z_iconst C dX6_secondsAlone_0 ?_
  refine z_istore_n C [1, 2, 0] [(0, .ref (a 32)), (1, .int (iI treads)), (2, .int (iI 0))] hl (by decide) rfl dX6_secondsAlone_1 (fun ls hl => ?_)
  refine z_iconst C dX6_secondsAlone_2 ?_
  refine z_istore_n C [1, 2, 3, 0] [(0, .ref (a 32)), (1, .int (iI treads)), (2, .int (iI 0)), (3, .int (iI 0))] hl (by decide) rfl dX6_secondsAlone_3 (fun ls hl => ?_)
  have L_4 : ∀ (n : Nat) (sm : Int) (i : Int) (ls : Array Slot), (0 ≤ i ∧ i ≤ σ 32 12) → (sm = mSum (fun i => mSec (mHard (σ 35 i) / 2) treads) i.toNat) → (0 ≤ sm ∧ sm ≤ 241 * i) → ((σ 32 12 - i).toNat) < n → lv_has ls 4 [(0, .ref (a 32)), (1, .int (iI treads)), (2, .int (iI sm)), (3, .int (iI i))] → W p l e (zR 2) s m ([.ref (a 32), .int (iI treads)] : List Value).toArray below meth c s.heap [] 0 0 (MQ below (zSi (mSum (fun i => mSec (mHard (σ 35 i) / 2) treads) (σ 32 12).toNat)) ([.ref (a 32), .int (iI treads)] : List Value).toArray s 0 0 zNo) (F0 m 4 ls []) := by
    intro n
    induction n with
    | zero =>
      intros; omega
    | succ n ih_4 =>
      intro sm i ls hi hv hs hm hl
      refine z_iload_n C hl 3 rfl dX6_secondsAlone_4 ?_
      refine z_aload_n C hl 0 rfl dX6_secondsAlone_5 ?_
      refine zg32_X6_52 C hP dX6_secondsAlone_6 ?_
      refine z_icmp_ge C 36 dX6_secondsAlone_9 (by decide) ⟨by omega, by omega⟩ ⟨by omega, by omega⟩ (fun c_9 => ?_) (fun c_9 => ?_)
      · refine z_iload_n C hl 2 rfl dX6_secondsAlone_36 ?_
        exact z_retSi C hr hlocks rfl (by rw [hv, show i = σ 32 12 by omega]) dX6_secondsAlone_37
      · have hgi := hg i (by omega) (by omega)
        have hh := mHard_b (σ 35 i)
        have hq := mSec_b (h := mHard (σ 35 i) / 2) (t := treads) (by omega)
        refine z_iload_n C hl 2 rfl dX6_secondsAlone_12 ?_
        refine z_aload_n C hl 0 rfl dX6_secondsAlone_13 ?_
        refine zg32_X6_21 C hP dX6_secondsAlone_14 ?_
        refine z_iload_n C hl 3 rfl dX6_secondsAlone_17 ?_
        refine z_iald C hP ia_35 ⟨by omega, by omega⟩ dX6_secondsAlone_18 ?_
        refine z_sSi C hP (As := [.int (iI (σ 35 i))]) lk_X6_112 (c_X0_hardOf hI σ (σ 35 i) (by omega)) rfl hl.1 rfl (Nat.le_of_ble_eq_true rfl) ⟨Nat.le_of_ble_eq_true rfl, Nat.le_of_ble_eq_true rfl⟩ ⟨Nat.zero_le _, Nat.zero_le _⟩ dX6_secondsAlone_19 ?_
        refine z_iconst C dX6_secondsAlone_22 ?_
        refine z_idiv C ⟨by omega, by omega, by omega, by omega⟩ dX6_secondsAlone_23 ?_
        refine z_iload_n C hl 1 rfl dX6_secondsAlone_24 ?_
        refine z_sSi C hP (As := [.int (iI ((mHard (σ 35 i)) / 2)), .int (iI treads)]) lk_X6_115 (c_X0_secondsOf hI σ ((mHard (σ 35 i)) / 2) treads (by omega) (by omega)) rfl hl.1 rfl (Nat.le_of_ble_eq_true rfl) ⟨Nat.le_of_ble_eq_true rfl, Nat.le_of_ble_eq_true rfl⟩ ⟨Nat.zero_le _, Nat.zero_le _⟩ dX6_secondsAlone_25 ?_
        refine z_iadd C dX6_secondsAlone_28 ?_
        refine z_topi (fun x1 hx1 => ?_)
        refine z_istore_n C [1, 2, 0, 3] [(0, .ref (a 32)), (1, .int (iI treads)), (2, .int (iI x1)), (3, .int (iI i))] hl (by decide) rfl dX6_secondsAlone_29 (fun ls hl => ?_)
        refine z_iinc C 3 [1, 2, 3, 0] [(0, .ref (a 32)), (1, .int (iI treads)), (2, .int (iI x1)), (3, .int (iI (i + 1)))] hl rfl (by decide) rfl dX6_secondsAlone_30 (fun ls hl => ?_)
        refine z_goto C 4 dX6_secondsAlone_33 (by decide) ?_
        exact ih_4 x1 (i + 1) ls (by omega) (by rw [mSum_s _ (by omega)]; omega) (by omega) (by omega) (lv_sub hl [0, 1, 2, 3] rfl)
  exact L_4 _ 0 0 ls (by omega) (by rfl) (by omega) (Nat.lt_succ_self _) (lv_sub hl [0, 1, 2, 3] rfl)

set_option maxRecDepth 20000 in
set_option maxHeartbeats 4000000 in
theorem c_X6_stretchesOf {l : Launch} {D : va_G} {Y : Nat → ClassId} {a : Int → Nat} (hI : zI a) (σ : zS) (sort : Int) (hn : 1 ≤ σ 32 12 ∧ σ 32 12 ≤ 24) (hg : ∀ i : Int, 0 ≤ i → i < 24 → -1 ≤ σ 35 i ∧ σ 35 i ≤ 6) (ht : -1 ≤ sort ∧ sort ≤ 1000) : zMet l yX6_stretchesOf cX6_stretchesOf 4 (some .int) 0 (zPc D Y a σ [.ref (a 32), .int (iI sort)]) (zSi (mSum (fun i => if σ 35 i = sort then 1 else 0) (σ 32 12).toNat)) zNo := by
  refine z_start rfl (Nat.le_of_ble_eq_true rfl) hI ?_
  intro p e s m below meth c ls C hr hlocks hl hP
  have hl : lv_has ls 4 [(0, .ref (a 32)), (1, .int (iI sort))] := hl
  refine z_iconst C dX6_stretchesOf_0 ?_
  refine z_istore_n C [1, 2, 0] [(0, .ref (a 32)), (1, .int (iI sort)), (2, .int (iI 0))] hl (by decide) rfl dX6_stretchesOf_1 (fun ls hl => ?_)
  refine z_iconst C dX6_stretchesOf_2 ?_
  refine z_istore_n C [1, 2, 3, 0] [(0, .ref (a 32)), (1, .int (iI sort)), (2, .int (iI 0)), (3, .int (iI 0))] hl (by decide) rfl dX6_stretchesOf_3 (fun ls hl => ?_)
  have L_4 : ∀ (n : Nat) (sm : Int) (i : Int) (ls : Array Slot), (0 ≤ i ∧ i ≤ σ 32 12) → (sm = mSum (fun i => if σ 35 i = sort then 1 else 0) i.toNat) → (0 ≤ sm ∧ sm ≤ i) → ((σ 32 12 - i).toNat) < n → lv_has ls 4 [(0, .ref (a 32)), (1, .int (iI sort)), (2, .int (iI sm)), (3, .int (iI i))] → W p l e (zR 0) s m ([.ref (a 32), .int (iI sort)] : List Value).toArray below meth c s.heap [] 0 0 (MQ below (zSi (mSum (fun i => if σ 35 i = sort then 1 else 0) (σ 32 12).toNat)) ([.ref (a 32), .int (iI sort)] : List Value).toArray s 0 0 zNo) (F0 m 4 ls []) := by
    intro n
    induction n with
    | zero =>
      intros; omega
    | succ n ih_4 =>
      intro sm i ls hi hv hs hm hl
      refine z_iload_n C hl 3 rfl dX6_stretchesOf_4 ?_
      refine z_aload_n C hl 0 rfl dX6_stretchesOf_5 ?_
      refine zg32_X6_52 C hP dX6_stretchesOf_6 ?_
      refine z_icmp_ge C 31 dX6_stretchesOf_9 (by decide) ⟨by omega, by omega⟩ ⟨by omega, by omega⟩ (fun c_9 => ?_) (fun c_9 => ?_)
      · refine z_iload_n C hl 2 rfl dX6_stretchesOf_31 ?_
        exact z_retSi C hr hlocks rfl (by rw [hv, show i = σ 32 12 by omega]) dX6_stretchesOf_32
      · have hgi := hg i (by omega) (by omega)
        refine z_aload_n C hl 0 rfl dX6_stretchesOf_12 ?_
        refine zg32_X6_21 C hP dX6_stretchesOf_13 ?_
        refine z_iload_n C hl 3 rfl dX6_stretchesOf_16 ?_
        refine z_iald C hP ia_35 ⟨by omega, by omega⟩ dX6_stretchesOf_17 ?_
        refine z_iload_n C hl 1 rfl dX6_stretchesOf_18 ?_
        refine z_icmp_ne C 25 dX6_stretchesOf_19 (by decide) ⟨by omega, by omega⟩ ⟨by omega, by omega⟩ (fun c_19 => ?_) (fun c_19 => ?_)
        · refine z_iinc C 3 [1, 2, 3, 0] [(0, .ref (a 32)), (1, .int (iI sort)), (2, .int (iI sm)), (3, .int (iI (i + 1)))] hl rfl (by decide) rfl dX6_stretchesOf_25 (fun ls hl => ?_)
          refine z_goto C 4 dX6_stretchesOf_28 (by decide) ?_
          exact ih_4 sm (i + 1) ls (by omega) (by rw [mSum_s _ (by omega)]; simp [*]) (by omega) (by omega) (lv_sub hl [0, 1, 2, 3] rfl)
        · refine z_iinc C 2 [1, 2, 0, 3] [(0, .ref (a 32)), (1, .int (iI sort)), (2, .int (iI (sm + 1))), (3, .int (iI i))] hl rfl (by decide) rfl dX6_stretchesOf_22 (fun ls hl => ?_)
          refine z_iinc C 3 [1, 2, 3, 0] [(0, .ref (a 32)), (1, .int (iI sort)), (2, .int (iI (sm + 1))), (3, .int (iI (i + 1)))] hl rfl (by decide) rfl dX6_stretchesOf_25 (fun ls hl => ?_)
          refine z_goto C 4 dX6_stretchesOf_28 (by decide) ?_
          exact ih_4 (sm + 1) (i + 1) ls (by omega) (by rw [mSum_s _ (by omega)]; simp [*]) (by omega) (by omega) (lv_sub hl [0, 1, 2, 3] rfl)
  exact L_4 _ 0 0 ls (by omega) (by rfl) (by omega) (Nat.lt_succ_self _) (lv_sub hl [0, 1, 2, 3] rfl)

set_option maxRecDepth 20000 in
set_option maxHeartbeats 4000000 in
theorem c_X6_corners {l : Launch} {D : va_G} {Y : Nat → ClassId} {a : Int → Nat} (hI : zI a) (σ : zS)  (hn : 1 ≤ σ 32 12 ∧ σ 32 12 ≤ 24) (hg : ∀ i : Int, 0 ≤ i → i < 24 → -1 ≤ σ 35 i ∧ σ 35 i ≤ 6) : zMet l yX6_corners cX6_corners 1 (some .int) 1 (zPc D Y a σ [.ref (a 32)]) (zSi (mSum (fun i => if σ 35 i = 5 then 1 else 0) (σ 32 12).toNat)) zNo := by
  refine z_start rfl (Nat.le_of_ble_eq_true rfl) hI ?_
  intro p e s m below meth c ls C hr hlocks hl hP
  have hl : lv_has ls 1 [(0, .ref (a 32))] := hl
  refine z_aload_n C hl 0 rfl dX6_corners_0 ?_
  refine z_iconst C dX6_corners_1 ?_
  refine z_vSi C hP (As := [.int (iI 5)]) lk_X6_109 (c_X6_stretchesOf hI σ 5 (by omega) (by omega) (by omega)) (ob_set (by unfold zSet; omega)) rfl rfl rfl hl.1 rfl (Nat.le_of_ble_eq_true rfl) ⟨Nat.le_of_ble_eq_true rfl, Nat.le_of_ble_eq_true rfl⟩ ⟨Nat.zero_le _, Nat.zero_le _⟩ dX6_corners_2 ?_
  exact z_retSi C hr hlocks rfl (by rfl) dX6_corners_5

set_option maxRecDepth 20000 in
set_option maxHeartbeats 4000000 in
theorem c_X6_bumps {l : Launch} {D : va_G} {Y : Nat → ClassId} {a : Int → Nat} (hI : zI a) (σ : zS)  (hn : 1 ≤ σ 32 12 ∧ σ 32 12 ≤ 24) (hg : ∀ i : Int, 0 ≤ i → i < 24 → -1 ≤ σ 35 i ∧ σ 35 i ≤ 6) : zMet l yX6_bumps cX6_bumps 1 (some .int) 1 (zPc D Y a σ [.ref (a 32)]) (zSi (mSum (fun i => if σ 35 i = 6 then 1 else 0) (σ 32 12).toNat)) zNo := by
  refine z_start rfl (Nat.le_of_ble_eq_true rfl) hI ?_
  intro p e s m below meth c ls C hr hlocks hl hP
  have hl : lv_has ls 1 [(0, .ref (a 32))] := hl
  refine z_aload_n C hl 0 rfl dX6_bumps_0 ?_
  refine z_bipush C (by decide +kernel) dX6_bumps_1 ?_
  refine z_vSi C hP (As := [.int (iI 6)]) lk_X6_109 (c_X6_stretchesOf hI σ 6 (by omega) (by omega) (by omega)) (ob_set (by unfold zSet; omega)) rfl rfl rfl hl.1 rfl (Nat.le_of_ble_eq_true rfl) ⟨Nat.le_of_ble_eq_true rfl, Nat.le_of_ble_eq_true rfl⟩ ⟨Nat.zero_le _, Nat.zero_le _⟩ dX6_bumps_3 ?_
  exact z_retSi C hr hlocks rfl (by rfl) dX6_bumps_6

set_option maxRecDepth 20000 in
set_option maxHeartbeats 4000000 in
theorem c_X1_signAt {l : Launch} {D : va_G} {Y : Nat → ClassId} {a : Int → Nat} (hI : zI a) (σ : zS) (pl : Int) (hp : 0 ≤ σ 3 1 ∧ σ 3 1 ≤ 110) (h1 : R3 pl) : zMet l yX1_signAt cX1_signAt 2 (some .int) 0 (zPc D Y a σ [.ref (a 3), .int (iI pl)]) (zSi (if 0 ≤ pl ∧ pl < σ 3 1 then σ 4 pl else 0)) zNo := by
  refine z_start rfl (Nat.le_of_ble_eq_true rfl) hI ?_
  intro p e s m below meth c ls C hr hlocks hl hP
  have hl : lv_has ls 2 [(0, .ref (a 3)), (1, .int (iI pl))] := hl
  refine z_iload_n C hl 1 rfl dX1_signAt_0 ?_
  refine z_if_lt C 30 dX1_signAt_1 (by decide) h1 (fun c_1 => ?_) (fun c_1 => ?_)
  · refine z_iconst C dX1_signAt_30 ?_
    exact z_retSi C hr hlocks rfl (by first | (exfalso; omega) | (rw [if_pos (by omega)]) | (rw [if_neg (by omega)])) dX1_signAt_31
  · refine z_iload_n C hl 1 rfl dX1_signAt_4 ?_
    refine z_aload_n C hl 0 rfl dX1_signAt_5 ?_
    refine zg_X1_15 C hP dX1_signAt_6 ?_
    refine z_icmp_ge C 30 dX1_signAt_9 (by decide) h1 ⟨by omega, by omega⟩ (fun c_9 => ?_) (fun c_9 => ?_)
    · refine z_iconst C dX1_signAt_30 ?_
      exact z_retSi C hr hlocks rfl (by first | (exfalso; omega) | (rw [if_pos (by omega)]) | (rw [if_neg (by omega)])) dX1_signAt_31
    · refine z_iload_n C hl 1 rfl dX1_signAt_12 ?_
      refine z_aload_n C hl 0 rfl dX1_signAt_13 ?_
      refine zg_X1_9 C hP dX1_signAt_14 ?_
      refine z_alen C hP ia_4 dX1_signAt_17 ?_
      refine z_icmp_ge C 30 dX1_signAt_18 (by decide) ⟨by omega, by omega⟩ ⟨by omega, by omega⟩ (fun c_18 => ?_) (fun c_18 => ?_)
      · refine z_iconst C dX1_signAt_30 ?_
        exact z_retSi C hr hlocks rfl (by first | (exfalso; omega) | (rw [if_pos (by omega)]) | (rw [if_neg (by omega)])) dX1_signAt_31
      · refine z_aload_n C hl 0 rfl dX1_signAt_21 ?_
        refine zg_X1_9 C hP dX1_signAt_22 ?_
        refine z_iload_n C hl 1 rfl dX1_signAt_25 ?_
        refine z_iald C hP ia_4 ⟨by omega, by omega⟩ dX1_signAt_26 ?_
        refine z_goto C 31 dX1_signAt_27 (by decide) ?_
        exact z_retSi C hr hlocks rfl (by first | (exfalso; omega) | (rw [if_pos (by omega)]) | (rw [if_neg (by omega)])) dX1_signAt_31

set_option maxRecDepth 20000 in
set_option maxHeartbeats 4000000 in
theorem c_X1_faultAsWay {l : Launch} {D : va_G} {Y : Nat → ClassId} {a : Int → Nat} (hI : zI a) (σ : zS)  (hp : 0 ≤ σ 3 1 ∧ σ 3 1 ≤ 110) (hq : ∀ i : Int, 0 ≤ i → i < 110 → 0 ≤ σ 4 i ∧ σ 4 i ≤ 126) : zMet l yX1_faultAsWay cX1_faultAsWay 2 (some .int) 2 (zPc D Y a σ [.ref (a 3)]) (zSi (mFWg (σ 4) (σ 3 1) 110 0)) zNo := by
  refine z_start rfl (Nat.le_of_ble_eq_true rfl) hI ?_
  intro p e s m below meth c ls C hr hlocks hl hP
  have hl : lv_has ls 2 [(0, .ref (a 3))] := hl
  refine z_iconst C dX1_faultAsWay_0 ?_
  refine z_istore_n C [1, 0] [(0, .ref (a 3)), (1, .int (iI 0))] hl (by decide) rfl dX1_faultAsWay_1 (fun ls hl => ?_)
  have L_2 : ∀ (n : Nat) (i : Int) (ls : Array Slot), (0 ≤ i ∧ i ≤ 24 ∧ i ≤ σ 3 1) → (mFWg (σ 4) (σ 3 1) 110 0 = mFWg (σ 4) (σ 3 1) (110 - i).toNat i) → ((110 - i).toNat) < n → lv_has ls 2 [(0, .ref (a 3)), (1, .int (iI i))] → W p l e (zR 2) s m ([.ref (a 3)] : List Value).toArray below meth c s.heap [] 0 0 (MQ below (zSi (mFWg (σ 4) (σ 3 1) 110 0)) ([.ref (a 3)] : List Value).toArray s 0 0 zNo) (F0 m 2 ls []) := by
    intro n
    induction n with
    | zero =>
      intros; omega
    | succ n ih_2 =>
      intro i ls hi hv hm hl
      have hst := mFWg_s (σ 4) (σ 3 1) (i := i) (by omega)
      refine z_iload_n C hl 1 rfl dX1_faultAsWay_2 ?_
      refine z_aload_n C hl 0 rfl dX1_faultAsWay_3 ?_
      refine zg_X1_15 C hP dX1_faultAsWay_4 ?_
      refine z_icmp_ge C 35 dX1_faultAsWay_7 (by decide) ⟨by omega, by omega⟩ ⟨by omega, by omega⟩ (fun c_7 => ?_) (fun c_7 => ?_)
      · refine z_aload_n C hl 0 rfl dX1_faultAsWay_35 ?_
        refine zg_X1_15 C hP dX1_faultAsWay_36 ?_
        refine z_if_ne C 46 dX1_faultAsWay_39 (by decide) ⟨by omega, by omega⟩ (fun c_39 => ?_) (fun c_39 => ?_)
        · refine z_bipush C (by decide +kernel) dX1_faultAsWay_46 ?_
          exact z_retSi C hr hlocks rfl (by rw [hv, hst]; first | (rw [if_pos (by omega)]; first | (rw [if_pos (by omega)]; done) | (rw [if_neg (by omega)]; done)) | (rw [if_neg (by omega), if_pos (by omega)]; done)) dX1_faultAsWay_48
        · refine z_iconst C dX1_faultAsWay_42 ?_
          refine z_goto C 48 dX1_faultAsWay_43 (by decide) ?_
          exact z_retSi C hr hlocks rfl (by rw [hv, hst]; first | (rw [if_pos (by omega)]; first | (rw [if_pos (by omega)]; done) | (rw [if_neg (by omega)]; done)) | (rw [if_neg (by omega), if_pos (by omega)]; done)) dX1_faultAsWay_48
      · have hqi := hq i (by omega) (by omega)
        refine z_iload_n C hl 1 rfl dX1_faultAsWay_10 ?_
        refine z_bipush C (by decide +kernel) dX1_faultAsWay_11 ?_
        refine z_icmp_ge C 27 dX1_faultAsWay_13 (by decide) ⟨by omega, by omega⟩ ⟨by omega, by omega⟩ (fun c_13 => ?_) (fun c_13 => ?_)
        · refine z_iload_n C hl 1 rfl dX1_faultAsWay_27 ?_
          exact z_retSi C hr hlocks rfl (by rw [hv, hst]; first | (rw [if_pos (by omega)]; first | (rw [if_pos (by omega)]; done) | (rw [if_neg (by omega)]; done)) | (rw [if_neg (by omega), if_pos (by omega)]; done)) dX1_faultAsWay_28
        · refine z_aload_n C hl 0 rfl dX1_faultAsWay_16 ?_
          refine z_iload_n C hl 1 rfl dX1_faultAsWay_17 ?_
          refine z_vSi C hP (As := [.int (iI i)]) lk_X1_19 (c_X1_signAt hI σ i (by omega) (by omega)) ob_3 rfl rfl rfl hl.1 rfl (Nat.le_of_ble_eq_true rfl) ⟨Nat.le_of_ble_eq_true rfl, Nat.le_of_ble_eq_true rfl⟩ ⟨Nat.zero_le _, Nat.zero_le _⟩ dX1_faultAsWay_18 ?_
          rw [if_pos (by omega)]
          refine z_sSi C hP (As := [.int (iI (σ 4 i))]) lk_X1_23 (c_X0_sortOf hI σ (σ 4 i) (by omega)) rfl hl.1 rfl (Nat.le_of_ble_eq_true rfl) ⟨Nat.le_of_ble_eq_true rfl, Nat.le_of_ble_eq_true rfl⟩ ⟨Nat.zero_le _, Nat.zero_le _⟩ dX1_faultAsWay_21 ?_
          have hso := mSort_b (σ 4 i)
          refine z_if_ge C 29 dX1_faultAsWay_24 (by decide) ⟨by omega, by omega⟩ (fun c_24 => ?_) (fun c_24 => ?_)
          · refine z_iinc C 1 [1, 0] [(0, .ref (a 3)), (1, .int (iI (i + 1)))] hl rfl (by decide) rfl dX1_faultAsWay_29 (fun ls hl => ?_)
            refine z_goto C 2 dX1_faultAsWay_32 (by decide) ?_
            exact ih_2 (i + 1) ls (by omega) (by rw [hv, mFWg_s _ _ (by omega), if_neg (by omega), if_neg (by omega)]) (by omega) (lv_sub hl [0, 1] rfl)
          · refine z_iload_n C hl 1 rfl dX1_faultAsWay_27 ?_
            exact z_retSi C hr hlocks rfl (by rw [hv, hst]; first | (rw [if_pos (by omega)]; first | (rw [if_pos (by omega)]; done) | (rw [if_neg (by omega)]; done)) | (rw [if_neg (by omega), if_pos (by omega)]; done)) dX1_faultAsWay_28
  exact L_2 _ 0 ls (by omega) (by rfl) (Nat.lt_succ_self _) (lv_sub hl [0, 1] rfl)
