def jSF1 (σ : zS) (ee b i : Int) : Int := mSec (mHard (mSort (σ 105 i))) (mTread (σ 101 (σ 100 5)) (σ 102 (σ 100 5)) (ee / 5) b + mTread (σ 101 (σ 100 6)) (σ 102 (σ 100 6)) (ee % 5) b)
def jSA (σ : zS) (ee b : Int) : Int := mSum (jSF1 σ ee b) (σ 100 11).toNat
theorem jSF1_b (σ : zS) (ee b i : Int) : 1 ≤ jSF1 σ ee b i ∧ jSF1 σ ee b i ≤ 241 := mSec_b (by have := mHard_b (mSort (σ 105 i)); omega)
theorem jSA_b (σ : zS) (ee b : Int) (h : 1 ≤ σ 100 11 ∧ σ 100 11 ≤ 24) : 0 ≤ jSA σ ee b ∧ jSA σ ee b ≤ 5784 := by
  have h1 := mSum_b (f := jSF1 σ ee b) (A := 241) (n := (σ 100 11).toNat) (fun i _ _ => by have := jSF1_b σ ee b i; omega)
  unfold jSA
  omega
def jOB (σ : zS) (ee : Int) : Int := mArg 4 (jSA σ ee) 6
set_option maxRecDepth 20000 in
set_option maxHeartbeats 4000000 in
theorem c_X8_secondsAt {l : Launch} {D : va_G} {Y : Nat → ClassId} {a : Int → Nat} (hI : zI a) (σ : zS) (ee b : Int) (hse : (0 ≤ σ 100 5 ∧ σ 100 5 ≤ 3) ∧ (0 ≤ σ 100 6 ∧ σ 100 6 ≤ 3)) (hnm : 1 ≤ σ 100 11 ∧ σ 100 11 ≤ 24) (hrd : ∀ r : Int, 0 ≤ r → r ≤ 3 → (0 ≤ σ 101 r ∧ σ 101 r ≤ 20) ∧ (0 ≤ σ 102 r ∧ σ 102 r ≤ 10) ∧ (0 ≤ σ 103 r ∧ σ 103 r ≤ 9)) (hch : ∀ i : Int, 0 ≤ i → i < 24 → 0 ≤ σ 105 i ∧ σ 105 i ≤ 200) (hee : 0 ≤ ee ∧ ee < 25) (hbb : 4 ≤ b ∧ b ≤ 10) : zMet l yX8_secondsAt cX8_secondsAt 5 (some .int) 3 (zPc D Y a σ [.ref (a 100), .int (iI ee), .int (iI b)]) (zSi (jSA σ ee b)) zNo := by
  refine z_start rfl (Nat.le_of_ble_eq_true rfl) hI ?_
  intro p e s m below meth c ls C hr hlocks hl hP
  have hl : lv_has ls 5 [(0, .ref (a 100)), (1, .int (iI ee)), (2, .int (iI b))] := hl
  refine z_iconst C dX8_secondsAt_0 ?_
  refine z_istore_n C [1, 2, 3, 0] [(0, .ref (a 100)), (1, .int (iI ee)), (2, .int (iI b)), (3, .int (iI 0))] hl (by decide) rfl dX8_secondsAt_1 (fun ls hl => ?_)
  refine z_iconst C dX8_secondsAt_2 ?_
  refine z_istore C [1, 2, 3, 4, 0] [(0, .ref (a 100)), (1, .int (iI ee)), (2, .int (iI b)), (3, .int (iI 0)), (4, .int (iI 0))] hl (by decide) rfl dX8_secondsAt_3 (fun ls hl => ?_)
  have L_5 : ∀ (n : Nat) (sm : Int) (i : Int) (ls : Array Slot), (0 ≤ i ∧ i ≤ σ 100 11) → (sm = mSum (jSF1 σ ee b) i.toNat) → (0 ≤ sm ∧ sm ≤ 241 * i) → ((σ 100 11 - i).toNat) < n → lv_has ls 5 [(0, .ref (a 100)), (1, .int (iI ee)), (2, .int (iI b)), (3, .int (iI sm)), (4, .int (iI i))] → W p l e (zR 3) s m ([.ref (a 100), .int (iI ee), .int (iI b)] : List Value).toArray below meth c s.heap [] 0 0 (MQ below (zSi (jSA σ ee b)) ([.ref (a 100), .int (iI ee), .int (iI b)] : List Value).toArray s 0 0 zNo) (F0 m 5 ls []) := by
    intro n
    induction n with
    | zero =>
      intros; omega
    | succ n ih_5 =>
      intro sm i ls ii iv ib hm hl
      refine z_iload C hl 4 rfl dX8_secondsAt_5 ?_
      refine z_aload_n C hl 0 rfl dX8_secondsAt_7 ?_
      refine zg_X8_81 C hP dX8_secondsAt_8 ?_
      refine z_icmp_ge C 44 dX8_secondsAt_11 (by decide) ⟨by omega, by omega⟩ ⟨by omega, by omega⟩ (fun c_11 => ?_) (fun c_11 => ?_)
      · refine z_iload_n C hl 3 rfl dX8_secondsAt_44 ?_
        exact z_retSi C hr hlocks rfl (by rw [iv, show i = σ 100 11 from (by omega)]; rfl) dX8_secondsAt_45
      · refine z_iload_n C hl 3 rfl dX8_secondsAt_14 ?_
        refine z_aload_n C hl 0 rfl dX8_secondsAt_15 ?_
        refine z_aload_n C hl 0 rfl dX8_secondsAt_16 ?_
        refine zg_X8_113 C hP dX8_secondsAt_17 ?_
        refine z_aload_n C hl 0 rfl dX8_secondsAt_20 ?_
        refine zg_X8_68 C hP dX8_secondsAt_21 ?_
        refine z_aload_n C hl 0 rfl dX8_secondsAt_24 ?_
        refine zg_X8_22 C hP dX8_secondsAt_25 ?_
        refine z_iload C hl 4 rfl dX8_secondsAt_28 ?_
        refine z_iald C hP ia_105 ⟨by omega, by omega⟩ dX8_secondsAt_30 ?_
        refine z_iload_n C hl 1 rfl dX8_secondsAt_31 ?_
        refine z_iload_n C hl 2 rfl dX8_secondsAt_32 ?_
        refine z_vSi C hP (As := [.int (iI (σ 100 5)), .int (iI (σ 100 6)), .int (iI (σ 105 i)), .int (iI ee), .int (iI b)]) lk_X8_229 (c_X8_secondsBy hI σ (σ 100 5) (σ 100 6) (σ 105 i) ee b hse.1 hse.2 (hch i (by omega) (by omega)) hee hbb hrd) ob_100 rfl rfl rfl hl.1 rfl (Nat.le_of_ble_eq_true rfl) ⟨Nat.le_of_ble_eq_true rfl, Nat.le_of_ble_eq_true rfl⟩ ⟨Nat.zero_le _, Nat.zero_le _⟩ dX8_secondsAt_33 ?_
        have hsb := jSF1_b σ ee b i
        have hsf : jSF1 σ ee b i = (mSec (mHard (mSort (σ 105 i))) (mTread (σ 101 (σ 100 5)) (σ 102 (σ 100 5)) (ee / 5) b + mTread (σ 101 (σ 100 6)) (σ 102 (σ 100 6)) (ee % 5) b)) := rfl
        refine z_iadd C dX8_secondsAt_36 ?_
        refine z_topi (fun x1 hx1 => ?_)
        refine z_istore_n C [1, 2, 3, 0, 4] [(0, .ref (a 100)), (1, .int (iI ee)), (2, .int (iI b)), (3, .int (iI x1)), (4, .int (iI i))] hl (by decide) rfl dX8_secondsAt_37 (fun ls hl => ?_)
        refine z_iinc C 4 [1, 2, 3, 4, 0] [(0, .ref (a 100)), (1, .int (iI ee)), (2, .int (iI b)), (3, .int (iI x1)), (4, .int (iI (i + 1)))] hl rfl (by decide) rfl dX8_secondsAt_38 (fun ls hl => ?_)
        refine z_goto C 5 dX8_secondsAt_41 (by decide) ?_
        exact ih_5 x1 (i + 1) ls (by omega) (by rw [mSum_s _ ii.1, ← iv, hsf]; omega) (by omega) (by omega) (lv_sub hl [0, 1, 2, 3, 4] rfl)
  exact L_5 _ 0 0 ls (by omega) (by rfl) (by omega) (Nat.lt_succ_self _) (lv_sub hl [0, 1, 2, 3, 4] rfl)

set_option maxRecDepth 20000 in
set_option maxHeartbeats 4000000 in
theorem c_X8_oneBeat {l : Launch} {D : va_G} {Y : Nat → ClassId} {a : Int → Nat} (hI : zI a) (σ : zS) (ef eb wh : Int) (r1 : R3 ef) (r2 : R3 eb) (r3 : R3 wh) (hrb : 0 ≤ σ 100 0 ∧ σ 100 0 ≤ 15) (hse : (0 ≤ σ 100 5 ∧ σ 100 5 ≤ 3) ∧ (0 ≤ σ 100 6 ∧ σ 100 6 ≤ 3)) (hnm : 1 ≤ σ 100 11 ∧ σ 100 11 ≤ 24) (hrd : ∀ r : Int, 0 ≤ r → r ≤ 3 → (0 ≤ σ 101 r ∧ σ 101 r ≤ 20) ∧ (0 ≤ σ 102 r ∧ σ 102 r ≤ 10) ∧ (0 ≤ σ 103 r ∧ σ 103 r ≤ 9)) (hch : ∀ i : Int, 0 ≤ i → i < 24 → 0 ≤ σ 105 i ∧ σ 105 i ≤ 200) (htl : ∀ r : Int, 0 ≤ r → r ≤ 3 → mBit (σ 100 0) r = 1 → 4 ≤ σ 102 r ∧ σ 102 r ≤ 10) : zMet l yX8_oneBeat cX8_oneBeat 7 (some .int) 4 (zPc D Y a σ [.ref (a 100), .int (iI ef), .int (iI eb), .int (iI wh)]) (zSi (if mBit (σ 100 0) (σ 100 5) = 1 ∧ mBit (σ 100 0) (σ 100 6) = 1 ∧ σ 100 5 ≠ σ 100 6 then (if (0 ≤ ef ∧ ef ≤ 4) ∧ (0 ≤ eb ∧ eb ≤ 4) ∧ 0 ≤ wh ∧ wh ≤ 3 then (if wh = 0 then (jOB σ (5 * ef + eb)) else if wh = 1 then jSA σ (5 * ef + eb) (jOB σ (5 * ef + eb)) else if wh = 2 then σ 100 11 * (mTread (σ 101 (σ 100 5)) (σ 102 (σ 100 5)) ef (σ 102 (σ 100 5)) - mTread (σ 101 (σ 100 5)) (σ 102 (σ 100 5)) ef (jOB σ (5 * ef + eb))) else σ 100 11 * (mTread (σ 101 (σ 100 6)) (σ 102 (σ 100 6)) eb (σ 102 (σ 100 6)) - mTread (σ 101 (σ 100 6)) (σ 102 (σ 100 6)) eb (jOB σ (5 * ef + eb)))) else -2) else -3)) zNo := by
  refine z_start rfl (Nat.le_of_ble_eq_true rfl) hI ?_
  intro p e s m below meth c ls C hr hlocks hl hP
  have hl : lv_has ls 7 [(0, .ref (a 100)), (1, .int (iI ef)), (2, .int (iI eb)), (3, .int (iI wh))] := hl
  refine z_aload_n C hl 0 rfl dX8_oneBeat_0 ?_
  refine z_vSi C hP (As := []) lk_X8_206 (c_X8_isNobody hI σ  hrb hse) ob_100 rfl rfl rfl hl.1 rfl (Nat.le_of_ble_eq_true rfl) ⟨Nat.le_of_ble_eq_true rfl, Nat.le_of_ble_eq_true rfl⟩ ⟨Nat.zero_le _, Nat.zero_le _⟩ dX8_oneBeat_1 ?_
  by_cases b_1 : ¬ (mBit (σ 100 0) (σ 100 5) = 1 ∧ mBit (σ 100 0) (σ 100 6) = 1 ∧ σ 100 5 ≠ σ 100 6)
  · rw [show (if ¬ (mBit (σ 100 0) (σ 100 5) = 1 ∧ mBit (σ 100 0) (σ 100 6) = 1 ∧ σ 100 5 ≠ σ 100 6) then (1 : Int) else 0) = 1 from if_pos b_1]
    refine z_ifF_eq C 10 dX8_oneBeat_4 (by decide) ⟨by decide, by decide⟩ (by decide) ?_
    refine z_bipush C (by decide +kernel) dX8_oneBeat_7 ?_
    exact z_retSi C hr hlocks rfl (by rw [if_neg b_1]) dX8_oneBeat_9
  · rw [show (if ¬ (mBit (σ 100 0) (σ 100 5) = 1 ∧ mBit (σ 100 0) (σ 100 6) = 1 ∧ σ 100 5 ≠ σ 100 6) then (1 : Int) else 0) = 0 from if_neg b_1]
    refine z_ifT_eq C 10 dX8_oneBeat_4 (by decide) ⟨by decide, by decide⟩ (by decide) ?_
    refine z_iload_n C hl 1 rfl dX8_oneBeat_10 ?_
    refine z_sSi C hP (As := [.int (iI ef)]) lk_X8_149 (c_X8_isEffort hI σ ef r1) rfl hl.1 rfl (Nat.le_of_ble_eq_true rfl) ⟨Nat.le_of_ble_eq_true rfl, Nat.le_of_ble_eq_true rfl⟩ ⟨Nat.zero_le _, Nat.zero_le _⟩ dX8_oneBeat_11 ?_
    by_cases b_11 : 0 ≤ ef ∧ ef ≤ 4
    · rw [show (if 0 ≤ ef ∧ ef ≤ 4 then (1 : Int) else 0) = 1 from if_pos b_11]
      refine z_ifF_eq C 36 dX8_oneBeat_14 (by decide) ⟨by decide, by decide⟩ (by decide) ?_
      refine z_iload_n C hl 2 rfl dX8_oneBeat_17 ?_
      refine z_sSi C hP (As := [.int (iI eb)]) lk_X8_149 (c_X8_isEffort hI σ eb r2) rfl hl.1 rfl (Nat.le_of_ble_eq_true rfl) ⟨Nat.le_of_ble_eq_true rfl, Nat.le_of_ble_eq_true rfl⟩ ⟨Nat.zero_le _, Nat.zero_le _⟩ dX8_oneBeat_18 ?_
      by_cases b_18 : 0 ≤ eb ∧ eb ≤ 4
      · rw [show (if 0 ≤ eb ∧ eb ≤ 4 then (1 : Int) else 0) = 1 from if_pos b_18]
        refine z_ifF_eq C 36 dX8_oneBeat_21 (by decide) ⟨by decide, by decide⟩ (by decide) ?_
        refine z_iload_n C hl 3 rfl dX8_oneBeat_24 ?_
        refine z_i2l C ⟨by omega, by omega⟩ dX8_oneBeat_25 ?_
        refine z_lconst C (z := 0) rfl dX8_oneBeat_26 ?_
        refine z_ldc2 C (z := 3) wd_162 (by decide +kernel) dX8_oneBeat_27 ?_
        refine z_sSi C hP (As := [.long (jI wh), .long (jI 0), .long (jI 3)]) lk_X8_86 (c_X8_in hI σ wh 0 3 ⟨by omega, by omega⟩ ⟨by omega, by omega⟩ ⟨by omega, by omega⟩) rfl hl.1 rfl (Nat.le_of_ble_eq_true rfl) ⟨Nat.le_of_ble_eq_true rfl, Nat.le_of_ble_eq_true rfl⟩ ⟨Nat.zero_le _, Nat.zero_le _⟩ dX8_oneBeat_30 ?_
        by_cases b_30 : 0 ≤ wh ∧ wh ≤ 3
        · rw [show (if 0 ≤ wh ∧ wh ≤ 3 then (1 : Int) else 0) = 1 from if_pos b_30]
          refine z_ifT_ne C 39 dX8_oneBeat_33 (by decide) ⟨by decide, by decide⟩ (by decide) ?_
          have hst : mBit (σ 100 0) (σ 100 5) = 1 ∧ mBit (σ 100 0) (σ 100 6) = 1 ∧ σ 100 5 ≠ σ 100 6 := Classical.byContradiction b_1
          refine z_iconst C dX8_oneBeat_39 ?_
          refine z_iload_n C hl 1 rfl dX8_oneBeat_40 ?_
          refine z_imul C dX8_oneBeat_41 ?_
          refine z_iload_n C hl 2 rfl dX8_oneBeat_42 ?_
          refine z_iadd C dX8_oneBeat_43 ?_
          refine z_topi (fun x1 hx1 => ?_)
          refine z_istore C [1, 2, 3, 4, 0] [(0, .ref (a 100)), (1, .int (iI ef)), (2, .int (iI eb)), (3, .int (iI wh)), (4, .int (iI x1))] hl (by decide) rfl dX8_oneBeat_44 (fun ls hl => ?_)
          refine z_iconst C dX8_oneBeat_46 ?_
          refine z_istore C [1, 2, 3, 4, 5, 0] [(0, .ref (a 100)), (1, .int (iI ef)), (2, .int (iI eb)), (3, .int (iI wh)), (4, .int (iI x1)), (5, .int (iI 4))] hl (by decide) rfl dX8_oneBeat_47 (fun ls hl => ?_)
          refine z_iconst C dX8_oneBeat_49 ?_
          refine z_istore C [1, 2, 3, 4, 5, 6, 0] [(0, .ref (a 100)), (1, .int (iI ef)), (2, .int (iI eb)), (3, .int (iI wh)), (4, .int (iI x1)), (5, .int (iI 4)), (6, .int (iI 4))] hl (by decide) rfl dX8_oneBeat_50 (fun ls hl => ?_)
          have L_52 : ∀ (n : Nat) (bt : Int) (b : Int) (ls : Array Slot), (4 ≤ b ∧ b ≤ 11) → (bt = mArg 4 (jSA σ x1) (b - 1 - 4).toNat) → (4 ≤ bt ∧ bt ≤ 10) → ((11 - b).toNat) < n → lv_has ls 7 [(0, .ref (a 100)), (1, .int (iI ef)), (2, .int (iI eb)), (3, .int (iI wh)), (4, .int (iI x1)), (5, .int (iI bt)), (6, .int (iI b))] → W p l e (zR 4) s m ([.ref (a 100), .int (iI ef), .int (iI eb), .int (iI wh)] : List Value).toArray below meth c s.heap [] 0 0 (MQ below (zSi (if mBit (σ 100 0) (σ 100 5) = 1 ∧ mBit (σ 100 0) (σ 100 6) = 1 ∧ σ 100 5 ≠ σ 100 6 then (if (0 ≤ ef ∧ ef ≤ 4) ∧ (0 ≤ eb ∧ eb ≤ 4) ∧ 0 ≤ wh ∧ wh ≤ 3 then (if wh = 0 then (jOB σ (5 * ef + eb)) else if wh = 1 then jSA σ (5 * ef + eb) (jOB σ (5 * ef + eb)) else if wh = 2 then σ 100 11 * (mTread (σ 101 (σ 100 5)) (σ 102 (σ 100 5)) ef (σ 102 (σ 100 5)) - mTread (σ 101 (σ 100 5)) (σ 102 (σ 100 5)) ef (jOB σ (5 * ef + eb))) else σ 100 11 * (mTread (σ 101 (σ 100 6)) (σ 102 (σ 100 6)) eb (σ 102 (σ 100 6)) - mTread (σ 101 (σ 100 6)) (σ 102 (σ 100 6)) eb (jOB σ (5 * ef + eb)))) else -2) else -3)) ([.ref (a 100), .int (iI ef), .int (iI eb), .int (iI wh)] : List Value).toArray s 0 0 zNo) (F0 m 52 ls []) := by
            intro n
            induction n with
            | zero =>
              intros; omega
            | succ n ih_52 =>
              intro bt b ls ib iv it hm hl
              have h45 : b = 4 → bt = 4 := fun h => by rw [iv, h]; rfl
              refine z_iload C hl 6 rfl dX8_oneBeat_52 ?_
              refine z_bipush C (by decide +kernel) dX8_oneBeat_54 ?_
              refine z_icmp_gt C 93 dX8_oneBeat_56 (by decide) ⟨by omega, by omega⟩ ⟨by omega, by omega⟩ (fun c_56 => ?_) (fun c_56 => ?_)
              · refine z_iload_n C hl 3 rfl dX8_oneBeat_93 ?_
                refine z_if_ne C 102 dX8_oneBeat_94 (by decide) ⟨by omega, by omega⟩ (fun c_94 => ?_) (fun c_94 => ?_)
                · refine z_iload_n C hl 3 rfl dX8_oneBeat_102 ?_
                  refine z_iconst C dX8_oneBeat_103 ?_
                  refine z_icmp_ne C 118 dX8_oneBeat_104 (by decide) ⟨by omega, by omega⟩ ⟨by omega, by omega⟩ (fun c_104 => ?_) (fun c_104 => ?_)
                  · refine z_iload_n C hl 3 rfl dX8_oneBeat_118 ?_
                    refine z_iconst C dX8_oneBeat_119 ?_
                    refine z_icmp_ne C 137 dX8_oneBeat_120 (by decide) ⟨by omega, by omega⟩ ⟨by omega, by omega⟩ (fun c_120 => ?_) (fun c_120 => ?_)
                    · refine z_aload_n C hl 0 rfl dX8_oneBeat_137 ?_
                      refine z_aload_n C hl 0 rfl dX8_oneBeat_138 ?_
                      refine zg_X8_68 C hP dX8_oneBeat_139 ?_
                      refine z_iload_n C hl 2 rfl dX8_oneBeat_142 ?_
                      refine z_iload C hl 5 rfl dX8_oneBeat_143 ?_
                      refine z_vSi C hP (As := [.int (iI (σ 100 6)), .int (iI eb), .int (iI bt)]) lk_X8_258 (c_X8_lost hI σ (σ 100 6) eb bt hse.2 ⟨by omega, by omega⟩ ⟨by omega, by omega⟩ (htl _ hse.2.1 hse.2.2 hst.2.1) hrd hnm) ob_100 rfl rfl rfl hl.1 rfl (Nat.le_of_ble_eq_true rfl) ⟨Nat.le_of_ble_eq_true rfl, Nat.le_of_ble_eq_true rfl⟩ ⟨Nat.zero_le _, Nat.zero_le _⟩ dX8_oneBeat_145 ?_
                      exact z_retSi C hr hlocks rfl (by have hbb : b = 11 := (by omega); subst hbb; have hE : bt = jOB σ (5 * ef + eb) := (by rw [iv]; subst_vars; rfl); rw [if_pos hst, if_pos (by omega), ← hE]; subst_vars; first | (rw [if_pos (by omega)]; done) | (rw [if_neg (by omega), if_pos (by omega)]; done) | (rw [if_neg (by omega), if_neg (by omega), if_pos (by omega)]; done) | (rw [if_neg (by omega), if_neg (by omega), if_neg (by omega)]; done)) dX8_oneBeat_148
                    · refine z_aload_n C hl 0 rfl dX8_oneBeat_123 ?_
                      refine z_aload_n C hl 0 rfl dX8_oneBeat_124 ?_
                      refine zg_X8_113 C hP dX8_oneBeat_125 ?_
                      refine z_iload_n C hl 1 rfl dX8_oneBeat_128 ?_
                      refine z_iload C hl 5 rfl dX8_oneBeat_129 ?_
                      refine z_vSi C hP (As := [.int (iI (σ 100 5)), .int (iI ef), .int (iI bt)]) lk_X8_258 (c_X8_lost hI σ (σ 100 5) ef bt hse.1 ⟨by omega, by omega⟩ ⟨by omega, by omega⟩ (htl _ hse.1.1 hse.1.2 hst.1) hrd hnm) ob_100 rfl rfl rfl hl.1 rfl (Nat.le_of_ble_eq_true rfl) ⟨Nat.le_of_ble_eq_true rfl, Nat.le_of_ble_eq_true rfl⟩ ⟨Nat.zero_le _, Nat.zero_le _⟩ dX8_oneBeat_131 ?_
                      refine z_goto C 148 dX8_oneBeat_134 (by decide) ?_
                      exact z_retSi C hr hlocks rfl (by have hbb : b = 11 := (by omega); subst hbb; have hE : bt = jOB σ (5 * ef + eb) := (by rw [iv]; subst_vars; rfl); rw [if_pos hst, if_pos (by omega), ← hE]; subst_vars; first | (rw [if_pos (by omega)]; done) | (rw [if_neg (by omega), if_pos (by omega)]; done) | (rw [if_neg (by omega), if_neg (by omega), if_pos (by omega)]; done) | (rw [if_neg (by omega), if_neg (by omega), if_neg (by omega)]; done)) dX8_oneBeat_148
                  · refine z_aload_n C hl 0 rfl dX8_oneBeat_107 ?_
                    refine z_iload C hl 4 rfl dX8_oneBeat_108 ?_
                    refine z_iload C hl 5 rfl dX8_oneBeat_110 ?_
                    refine z_vSi C hP (As := [.int (iI x1), .int (iI bt)]) lk_X8_255 (c_X8_secondsAt hI σ x1 bt hse hnm hrd hch ⟨by omega, by omega⟩ ⟨by omega, by omega⟩) ob_100 rfl rfl rfl hl.1 rfl (Nat.le_of_ble_eq_true rfl) ⟨Nat.le_of_ble_eq_true rfl, Nat.le_of_ble_eq_true rfl⟩ ⟨Nat.zero_le _, Nat.zero_le _⟩ dX8_oneBeat_112 ?_
                    refine z_goto C 148 dX8_oneBeat_115 (by decide) ?_
                    exact z_retSi C hr hlocks rfl (by have hbb : b = 11 := (by omega); subst hbb; have hE : bt = jOB σ (5 * ef + eb) := (by rw [iv]; subst_vars; rfl); rw [if_pos hst, if_pos (by omega), ← hE]; subst_vars; first | (rw [if_pos (by omega)]; done) | (rw [if_neg (by omega), if_pos (by omega)]; done) | (rw [if_neg (by omega), if_neg (by omega), if_pos (by omega)]; done) | (rw [if_neg (by omega), if_neg (by omega), if_neg (by omega)]; done)) dX8_oneBeat_148
                · refine z_iload C hl 5 rfl dX8_oneBeat_97 ?_
                  refine z_goto C 148 dX8_oneBeat_99 (by decide) ?_
                  exact z_retSi C hr hlocks rfl (by have hbb : b = 11 := (by omega); subst hbb; have hE : bt = jOB σ (5 * ef + eb) := (by rw [iv]; subst_vars; rfl); rw [if_pos hst, if_pos (by omega), ← hE]; subst_vars; first | (rw [if_pos (by omega)]; done) | (rw [if_neg (by omega), if_pos (by omega)]; done) | (rw [if_neg (by omega), if_neg (by omega), if_pos (by omega)]; done) | (rw [if_neg (by omega), if_neg (by omega), if_neg (by omega)]; done)) dX8_oneBeat_148
              · refine z_aload_n C hl 0 rfl dX8_oneBeat_59 ?_
                refine z_iload C hl 4 rfl dX8_oneBeat_60 ?_
                refine z_iload C hl 6 rfl dX8_oneBeat_62 ?_
                refine z_vSi C hP (As := [.int (iI x1), .int (iI b)]) lk_X8_255 (c_X8_secondsAt hI σ x1 b hse hnm hrd hch ⟨by omega, by omega⟩ ⟨by omega, by omega⟩) ob_100 rfl rfl rfl hl.1 rfl (Nat.le_of_ble_eq_true rfl) ⟨Nat.le_of_ble_eq_true rfl, Nat.le_of_ble_eq_true rfl⟩ ⟨Nat.zero_le _, Nat.zero_le _⟩ dX8_oneBeat_64 ?_
                have hq1 := jSA_b σ x1 b hnm
                refine z_aload_n C hl 0 rfl dX8_oneBeat_67 ?_
                refine z_iload C hl 4 rfl dX8_oneBeat_68 ?_
                refine z_iload C hl 5 rfl dX8_oneBeat_70 ?_
                refine z_vSi C hP (As := [.int (iI x1), .int (iI bt)]) lk_X8_255 (c_X8_secondsAt hI σ x1 bt hse hnm hrd hch ⟨by omega, by omega⟩ ⟨by omega, by omega⟩) ob_100 rfl rfl rfl hl.1 rfl (Nat.le_of_ble_eq_true rfl) ⟨Nat.le_of_ble_eq_true rfl, Nat.le_of_ble_eq_true rfl⟩ ⟨Nat.zero_le _, Nat.zero_le _⟩ dX8_oneBeat_72 ?_
                have hq2 := jSA_b σ x1 bt hnm
                refine z_icmp_ge C 83 dX8_oneBeat_75 (by decide) ⟨by omega, by omega⟩ ⟨by omega, by omega⟩ (fun c_75 => ?_) (fun c_75 => ?_)
                · refine z_iload C hl 5 rfl dX8_oneBeat_83 ?_
                  refine z_istore C [1, 2, 3, 4, 5, 0, 6] [(0, .ref (a 100)), (1, .int (iI ef)), (2, .int (iI eb)), (3, .int (iI wh)), (4, .int (iI x1)), (5, .int (iI bt)), (6, .int (iI b))] hl (by decide) rfl dX8_oneBeat_85 (fun ls hl => ?_)
                  refine z_iinc C 6 [1, 2, 3, 4, 5, 6, 0] [(0, .ref (a 100)), (1, .int (iI ef)), (2, .int (iI eb)), (3, .int (iI wh)), (4, .int (iI x1)), (5, .int (iI bt)), (6, .int (iI (b + 1)))] hl rfl (by decide) rfl dX8_oneBeat_87 (fun ls hl => ?_)
                  refine z_goto C 52 dX8_oneBeat_90 (by decide) ?_
                  exact ih_52 bt (b + 1) ls (by omega) (by exact if h4 : b = 4 then (by have h5 := h45 h4; first | (rw [h4]; rfl) | (rw [h5, h4]; rfl)) else (by have hst2 := mArg_s 4 (jSA σ x1) (b := b - 1) (by omega); rw [show b - 1 + 1 = b from (by omega)] at hst2; rw [show b + 1 - 1 - 4 = b - 4 from (by omega), hst2, ← iv]; first | (rw [if_pos (by omega)]; done) | (rw [if_neg (by omega)]; done))) (by omega) (by omega) (lv_sub hl [0, 1, 2, 3, 4, 5, 6] rfl)
                · refine z_iload C hl 6 rfl dX8_oneBeat_78 ?_
                  refine z_goto C 85 dX8_oneBeat_80 (by decide) ?_
                  refine z_istore C [1, 2, 3, 4, 5, 0, 6] [(0, .ref (a 100)), (1, .int (iI ef)), (2, .int (iI eb)), (3, .int (iI wh)), (4, .int (iI x1)), (5, .int (iI b)), (6, .int (iI b))] hl (by decide) rfl dX8_oneBeat_85 (fun ls hl => ?_)
                  refine z_iinc C 6 [1, 2, 3, 4, 5, 6, 0] [(0, .ref (a 100)), (1, .int (iI ef)), (2, .int (iI eb)), (3, .int (iI wh)), (4, .int (iI x1)), (5, .int (iI b)), (6, .int (iI (b + 1)))] hl rfl (by decide) rfl dX8_oneBeat_87 (fun ls hl => ?_)
                  refine z_goto C 52 dX8_oneBeat_90 (by decide) ?_
                  exact ih_52 b (b + 1) ls (by omega) (by exact if h4 : b = 4 then (by have h5 := h45 h4; first | (rw [h4]; rfl) | (rw [h5, h4]; rfl)) else (by have hst2 := mArg_s 4 (jSA σ x1) (b := b - 1) (by omega); rw [show b - 1 + 1 = b from (by omega)] at hst2; rw [show b + 1 - 1 - 4 = b - 4 from (by omega), hst2, ← iv]; first | (rw [if_pos (by omega)]; done) | (rw [if_neg (by omega)]; done))) (by omega) (by omega) (lv_sub hl [0, 1, 2, 3, 4, 5, 6] rfl)
          exact L_52 _ 4 4 ls (by omega) (by rfl) (by omega) (Nat.lt_succ_self _) (lv_sub hl [0, 1, 2, 3, 4, 5, 6] rfl)
        · rw [show (if 0 ≤ wh ∧ wh ≤ 3 then (1 : Int) else 0) = 0 from if_neg b_30]
          refine z_ifF_ne C 39 dX8_oneBeat_33 (by decide) ⟨by decide, by decide⟩ (by decide) ?_
          refine z_bipush C (by decide +kernel) dX8_oneBeat_36 ?_
          exact z_retSi C hr hlocks rfl (by rw [if_pos (Classical.byContradiction b_1), if_neg (by omega)]) dX8_oneBeat_38
      · rw [show (if 0 ≤ eb ∧ eb ≤ 4 then (1 : Int) else 0) = 0 from if_neg b_18]
        refine z_ifT_eq C 36 dX8_oneBeat_21 (by decide) ⟨by decide, by decide⟩ (by decide) ?_
        refine z_bipush C (by decide +kernel) dX8_oneBeat_36 ?_
        exact z_retSi C hr hlocks rfl (by rw [if_pos (Classical.byContradiction b_1), if_neg (by omega)]) dX8_oneBeat_38
    · rw [show (if 0 ≤ ef ∧ ef ≤ 4 then (1 : Int) else 0) = 0 from if_neg b_11]
      refine z_ifT_eq C 36 dX8_oneBeat_14 (by decide) ⟨by decide, by decide⟩ (by decide) ?_
      refine z_bipush C (by decide +kernel) dX8_oneBeat_36 ?_
      exact z_retSi C hr hlocks rfl (by rw [if_pos (Classical.byContradiction b_1), if_neg (by omega)]) dX8_oneBeat_38

def jAl (σ : zS) (rr ef ch : Int) : Int := mSec (mHard (mSort ch) / 2) (mTread (σ 101 rr) (σ 102 rr) ef (σ 102 rr))
theorem jAl_b (σ : zS) (rr ef ch : Int) : 1 ≤ jAl σ rr ef ch ∧ jAl σ rr ef ch ≤ 241 := mSec_b (by have := mHard_b (mSort ch); omega)
set_option maxRecDepth 20000 in
set_option maxHeartbeats 4000000 in
theorem c_X8_single {l : Launch} {D : va_G} {Y : Nat → ClassId} {a : Int → Nat} (hI : zI a) (σ : zS) (rr ef : Int) (r1 : R3 rr) (r2 : R3 ef) (hrb : 0 ≤ σ 100 0 ∧ σ 100 0 ≤ 15) (hnm : 1 ≤ σ 100 11 ∧ σ 100 11 ≤ 24) (hrd : ∀ r : Int, 0 ≤ r → r ≤ 3 → (0 ≤ σ 101 r ∧ σ 101 r ≤ 20) ∧ (0 ≤ σ 102 r ∧ σ 102 r ≤ 10) ∧ (0 ≤ σ 103 r ∧ σ 103 r ≤ 9)) (hch : ∀ i : Int, 0 ≤ i → i < 24 → 0 ≤ σ 105 i ∧ σ 105 i ≤ 200) (htl : ∀ r : Int, 0 ≤ r → r ≤ 3 → mBit (σ 100 0) r = 1 → 4 ≤ σ 102 r ∧ σ 102 r ≤ 10) : zMet l yX8_single cX8_single 5 (some .int) 3 (zPc D Y a σ [.ref (a 100), .int (iI rr), .int (iI ef)]) (zSi (if 0 ≤ rr ∧ rr ≤ 3 ∧ mBit (σ 100 0) rr = 1 then (if 0 ≤ ef ∧ ef ≤ 4 then mSum (fun i => jAl σ rr ef (σ 105 i)) (σ 100 11).toNat else -2) else -1)) zNo := by
  refine z_start rfl (Nat.le_of_ble_eq_true rfl) hI ?_
  intro p e s m below meth c ls C hr hlocks hl hP
  have hl : lv_has ls 5 [(0, .ref (a 100)), (1, .int (iI rr)), (2, .int (iI ef))] := hl
  refine z_aload_n C hl 0 rfl dX8_single_0 ?_
  refine z_iload_n C hl 1 rfl dX8_single_1 ?_
  refine z_vSi C hP (As := [.int (iI rr)]) lk_X8_110 (c_X8_isThere hI σ rr r1 hrb) ob_100 rfl rfl rfl hl.1 rfl (Nat.le_of_ble_eq_true rfl) ⟨Nat.le_of_ble_eq_true rfl, Nat.le_of_ble_eq_true rfl⟩ ⟨Nat.zero_le _, Nat.zero_le _⟩ dX8_single_2 ?_
  by_cases b_2 : 0 ≤ rr ∧ rr ≤ 3 ∧ mBit (σ 100 0) rr = 1
  · rw [show (if 0 ≤ rr ∧ rr ≤ 3 ∧ mBit (σ 100 0) rr = 1 then (1 : Int) else 0) = 1 from if_pos b_2]
    refine z_ifT_ne C 10 dX8_single_5 (by decide) ⟨by decide, by decide⟩ (by decide) ?_
    refine z_iload_n C hl 2 rfl dX8_single_10 ?_
    refine z_sSi C hP (As := [.int (iI ef)]) lk_X8_149 (c_X8_isEffort hI σ ef r2) rfl hl.1 rfl (Nat.le_of_ble_eq_true rfl) ⟨Nat.le_of_ble_eq_true rfl, Nat.le_of_ble_eq_true rfl⟩ ⟨Nat.zero_le _, Nat.zero_le _⟩ dX8_single_11 ?_
    by_cases b_11 : 0 ≤ ef ∧ ef ≤ 4
    · rw [show (if 0 ≤ ef ∧ ef ≤ 4 then (1 : Int) else 0) = 1 from if_pos b_11]
      refine z_ifT_ne C 20 dX8_single_14 (by decide) ⟨by decide, by decide⟩ (by decide) ?_
      refine z_iconst C dX8_single_20 ?_
      refine z_istore_n C [1, 2, 3, 0] [(0, .ref (a 100)), (1, .int (iI rr)), (2, .int (iI ef)), (3, .int (iI 0))] hl (by decide) rfl dX8_single_21 (fun ls hl => ?_)
      refine z_iconst C dX8_single_22 ?_
      refine z_istore C [1, 2, 3, 4, 0] [(0, .ref (a 100)), (1, .int (iI rr)), (2, .int (iI ef)), (3, .int (iI 0)), (4, .int (iI 0))] hl (by decide) rfl dX8_single_23 (fun ls hl => ?_)
      have L_25 : ∀ (n : Nat) (sm : Int) (i : Int) (ls : Array Slot), (0 ≤ i ∧ i ≤ σ 100 11) → (sm = mSum (fun i => jAl σ rr ef (σ 105 i)) i.toNat) → (0 ≤ sm ∧ sm ≤ 241 * i) → ((σ 100 11 - i).toNat) < n → lv_has ls 5 [(0, .ref (a 100)), (1, .int (iI rr)), (2, .int (iI ef)), (3, .int (iI sm)), (4, .int (iI i))] → W p l e (zR 3) s m ([.ref (a 100), .int (iI rr), .int (iI ef)] : List Value).toArray below meth c s.heap [] 0 0 (MQ below (zSi (if 0 ≤ rr ∧ rr ≤ 3 ∧ mBit (σ 100 0) rr = 1 then (if 0 ≤ ef ∧ ef ≤ 4 then mSum (fun i => jAl σ rr ef (σ 105 i)) (σ 100 11).toNat else -2) else -1)) ([.ref (a 100), .int (iI rr), .int (iI ef)] : List Value).toArray s 0 0 zNo) (F0 m 25 ls []) := by
        intro n
        induction n with
        | zero =>
          intros; omega
        | succ n ih_25 =>
          intro sm i ls ii iv ib hm hl
          refine z_iload C hl 4 rfl dX8_single_25 ?_
          refine z_aload_n C hl 0 rfl dX8_single_27 ?_
          refine zg_X8_81 C hP dX8_single_28 ?_
          refine z_icmp_ge C 56 dX8_single_31 (by decide) ⟨by omega, by omega⟩ ⟨by omega, by omega⟩ (fun c_31 => ?_) (fun c_31 => ?_)
          · refine z_iload_n C hl 3 rfl dX8_single_56 ?_
            exact z_retSi C hr hlocks rfl (by first | (rw [if_neg b_2]; done) | (rw [if_pos b_2, if_neg b_11]; done) | (rw [if_pos b_2, if_pos b_11, iv, show i = σ 100 11 from (by omega)])) dX8_single_57
          · refine z_iload_n C hl 3 rfl dX8_single_34 ?_
            refine z_aload_n C hl 0 rfl dX8_single_35 ?_
            refine z_iload_n C hl 1 rfl dX8_single_36 ?_
            refine z_iload_n C hl 2 rfl dX8_single_37 ?_
            refine z_aload_n C hl 0 rfl dX8_single_38 ?_
            refine zg_X8_22 C hP dX8_single_39 ?_
            refine z_iload C hl 4 rfl dX8_single_42 ?_
            refine z_iald C hP ia_105 ⟨by omega, by omega⟩ dX8_single_44 ?_
            refine z_vSi C hP (As := [.int (iI rr), .int (iI ef), .int (iI (σ 105 i))]) lk_X8_261 (c_X8_alone hI σ rr ef (σ 105 i) ⟨by omega, by omega⟩ (hch i (by omega) (by omega)) b_11 (htl rr b_2.1 b_2.2.1 b_2.2.2) hrd) ob_100 rfl rfl rfl hl.1 rfl (Nat.le_of_ble_eq_true rfl) ⟨Nat.le_of_ble_eq_true rfl, Nat.le_of_ble_eq_true rfl⟩ ⟨Nat.zero_le _, Nat.zero_le _⟩ dX8_single_45 ?_
            have hsb := jAl_b σ rr ef (σ 105 i)
            rw [show mSec (mHard (mSort (σ 105 i)) / 2) (mTread (σ 101 rr) (σ 102 rr) ef (σ 102 rr)) = jAl σ rr ef (σ 105 i) from rfl]
            refine z_iadd C dX8_single_48 ?_
            refine z_topi (fun x1 hx1 => ?_)
            refine z_istore_n C [1, 2, 3, 0, 4] [(0, .ref (a 100)), (1, .int (iI rr)), (2, .int (iI ef)), (3, .int (iI x1)), (4, .int (iI i))] hl (by decide) rfl dX8_single_49 (fun ls hl => ?_)
            refine z_iinc C 4 [1, 2, 3, 4, 0] [(0, .ref (a 100)), (1, .int (iI rr)), (2, .int (iI ef)), (3, .int (iI x1)), (4, .int (iI (i + 1)))] hl rfl (by decide) rfl dX8_single_50 (fun ls hl => ?_)
            refine z_goto C 25 dX8_single_53 (by decide) ?_
            exact ih_25 x1 (i + 1) ls (by omega) (by rw [mSum_s _ ii.1, ← iv]; show _ = sm + jAl σ rr ef (σ 105 i); omega) (by omega) (by omega) (lv_sub hl [0, 1, 2, 3, 4] rfl)
      exact L_25 _ 0 0 ls (by omega) (by rfl) (by omega) (Nat.lt_succ_self _) (lv_sub hl [0, 1, 2, 3, 4] rfl)
    · rw [show (if 0 ≤ ef ∧ ef ≤ 4 then (1 : Int) else 0) = 0 from if_neg b_11]
      refine z_ifF_ne C 20 dX8_single_14 (by decide) ⟨by decide, by decide⟩ (by decide) ?_
      refine z_bipush C (by decide +kernel) dX8_single_17 ?_
      exact z_retSi C hr hlocks rfl (by first | (rw [if_neg b_2]; done) | (rw [if_pos b_2, if_neg b_11]; done) | (rw [if_pos b_2, if_pos b_11, iv, show i = σ 100 11 from (by omega)])) dX8_single_19
  · rw [show (if 0 ≤ rr ∧ rr ≤ 3 ∧ mBit (σ 100 0) rr = 1 then (1 : Int) else 0) = 0 from if_neg b_2]
    refine z_ifF_ne C 10 dX8_single_5 (by decide) ⟨by decide, by decide⟩ (by decide) ?_
    refine z_iconst C dX8_single_8 ?_
    exact z_retSi C hr hlocks rfl (by first | (rw [if_neg b_2]; done) | (rw [if_pos b_2, if_neg b_11]; done) | (rw [if_pos b_2, if_pos b_11, iv, show i = σ 100 11 from (by omega)])) dX8_single_9

def jChr (i : Int) : Int := if i = 0 then 46 else if i = 1 then 117 else if i = 2 then 85 else if i = 3 then 100 else 68
theorem jChr_b (i : Int) : 0 ≤ jChr i ∧ jChr i ≤ 200 := by
  unfold jChr
  repeat' split
  all_goals omega
def jSrF (σ : zS) (ef i : Int) : Int := if jQk σ (σ 100 5) (σ 100 6) (jChr i) (6 * ef) < min (jAl σ (σ 100 5) ef (jChr i)) (jAl σ (σ 100 6) ef (jChr i)) then 2 ^ i.toNat else 0
theorem jSrF_b (σ : zS) (ef i : Int) (_ : 0 ≤ i) : jSrF σ ef i = 0 ∨ jSrF σ ef i = 2 ^ i.toNat := by
  unfold jSrF
  split
  · exact Or.inr rfl
  · exact Or.inl rfl
set_option maxRecDepth 20000 in
set_option maxHeartbeats 4000000 in
theorem c_X8_sorts {l : Launch} {D : va_G} {Y : Nat → ClassId} {a : Int → Nat} (hI : zI a) (σ : zS) (ef : Int) (r1 : R3 ef) (hrb : 0 ≤ σ 100 0 ∧ σ 100 0 ≤ 15) (hse : (0 ≤ σ 100 5 ∧ σ 100 5 ≤ 3) ∧ (0 ≤ σ 100 6 ∧ σ 100 6 ≤ 3)) (hrd : ∀ r : Int, 0 ≤ r → r ≤ 3 → (0 ≤ σ 101 r ∧ σ 101 r ≤ 20) ∧ (0 ≤ σ 102 r ∧ σ 102 r ≤ 10) ∧ (0 ≤ σ 103 r ∧ σ 103 r ≤ 9)) (htl : ∀ r : Int, 0 ≤ r → r ≤ 3 → mBit (σ 100 0) r = 1 → 4 ≤ σ 102 r ∧ σ 102 r ≤ 10) : zMet l yX8_sorts cX8_sorts 6 (some .int) 4 (zPc D Y a σ [.ref (a 100), .int (iI ef)]) (zQi D Y a (fun r τ => (¬ (mBit (σ 100 0) (σ 100 5) = 1 ∧ mBit (σ 100 0) (σ 100 6) = 1 ∧ σ 100 5 ≠ σ 100 6) → r = -3) ∧ (mBit (σ 100 0) (σ 100 5) = 1 ∧ mBit (σ 100 0) (σ 100 6) = 1 ∧ σ 100 5 ≠ σ 100 6 → ¬ (0 ≤ ef ∧ ef ≤ 4) → r = -2) ∧ (mBit (σ 100 0) (σ 100 5) = 1 ∧ mBit (σ 100 0) (σ 100 6) = 1 ∧ σ 100 5 ≠ σ 100 6 → 0 ≤ ef ∧ ef ≤ 4 → r = mSum (jSrF σ ef) 5) ∧ (∀ c : Int, c ≠ 117 → τ c = σ c))) (inA a) := by
  refine z_start rfl (Nat.le_of_ble_eq_true rfl) hI ?_
  intro p e s m below meth c ls C hr hlocks hl hP
  have hS : va_S (inA a) s.heap s.heap [] := va_S.rf
  have hl : lv_has ls 6 [(0, .ref (a 100)), (1, .int (iI ef))] := hl
  skip
  refine z_aload_n C hl 0 rfl dX8_sorts_0 ?_
  refine z_vSi C hP (As := []) lk_X8_206 (c_X8_isNobody hI σ  hrb hse) ob_100 rfl rfl rfl hl.1 rfl (Nat.le_of_ble_eq_true rfl) ⟨Nat.le_of_ble_eq_true rfl, Nat.le_of_ble_eq_true rfl⟩ ⟨Nat.zero_le _, Nat.zero_le _⟩ dX8_sorts_1 ?_
  by_cases b_1 : ¬ (mBit (σ 100 0) (σ 100 5) = 1 ∧ mBit (σ 100 0) (σ 100 6) = 1 ∧ σ 100 5 ≠ σ 100 6)
  · rw [show (if ¬ (mBit (σ 100 0) (σ 100 5) = 1 ∧ mBit (σ 100 0) (σ 100 6) = 1 ∧ σ 100 5 ≠ σ 100 6) then (1 : Int) else 0) = 1 from if_pos b_1]
    refine z_ifF_eq C 10 dX8_sorts_4 (by decide) ⟨by decide, by decide⟩ (by decide) ?_
    refine z_bipush C (by decide +kernel) dX8_sorts_7 ?_
    exact z_retQi C hP hS hr hlocks rfl (by exact ⟨fun _ => rfl, fun h => absurd h b_1, fun h => absurd h b_1, fun _ _ => rfl⟩) dX8_sorts_9
  · rw [show (if ¬ (mBit (σ 100 0) (σ 100 5) = 1 ∧ mBit (σ 100 0) (σ 100 6) = 1 ∧ σ 100 5 ≠ σ 100 6) then (1 : Int) else 0) = 0 from if_neg b_1]
    refine z_ifT_eq C 10 dX8_sorts_4 (by decide) ⟨by decide, by decide⟩ (by decide) ?_
    refine z_iload_n C hl 1 rfl dX8_sorts_10 ?_
    refine z_sSi C hP (As := [.int (iI ef)]) lk_X8_149 (c_X8_isEffort hI σ ef r1) rfl hl.1 rfl (Nat.le_of_ble_eq_true rfl) ⟨Nat.le_of_ble_eq_true rfl, Nat.le_of_ble_eq_true rfl⟩ ⟨Nat.zero_le _, Nat.zero_le _⟩ dX8_sorts_11 ?_
    by_cases b_11 : 0 ≤ ef ∧ ef ≤ 4
    · rw [show (if 0 ≤ ef ∧ ef ≤ 4 then (1 : Int) else 0) = 1 from if_pos b_11]
      refine z_ifT_ne C 20 dX8_sorts_14 (by decide) ⟨by decide, by decide⟩ (by decide) ?_
      have hst : mBit (σ 100 0) (σ 100 5) = 1 ∧ mBit (σ 100 0) (σ 100 6) = 1 ∧ σ 100 5 ≠ σ 100 6 := Classical.byContradiction b_1
      refine z_iconst C dX8_sorts_20 ?_
      refine z_istore_n C [1, 2, 0] [(0, .ref (a 100)), (1, .int (iI ef)), (2, .int (iI 0))] hl (by decide) rfl dX8_sorts_21 (fun ls hl => ?_)
      refine z_iconst C dX8_sorts_22 ?_
      refine z_istore_n C [1, 2, 3, 0] [(0, .ref (a 100)), (1, .int (iI ef)), (2, .int (iI 0)), (3, .int (iI 0))] hl (by decide) rfl dX8_sorts_23 (fun ls hl => ?_)
      have L_24 : ∀ (n : Nat) (bits : Int) (i : Int) (τ : zS) (H : Heap) (locs : List Loc) (hP : GP D Y a τ H) (hS : va_S (inA a) s.heap H locs) (ls : Array Slot), (0 ≤ i ∧ i ≤ 5) → (∀ c : Int, c ≠ 117 → τ c = σ c) → (bits = mSum (jSrF σ ef) i.toNat) → ((5 - i).toNat) < n → lv_has ls 6 [(0, .ref (a 100)), (1, .int (iI ef)), (2, .int (iI bits)), (3, .int (iI i))] → W p l e (zR 4) s m ([.ref (a 100), .int (iI ef)] : List Value).toArray below meth c H locs 0 0 (MQ below (zQi D Y a (fun r τ => (¬ (mBit (σ 100 0) (σ 100 5) = 1 ∧ mBit (σ 100 0) (σ 100 6) = 1 ∧ σ 100 5 ≠ σ 100 6) → r = -3) ∧ (mBit (σ 100 0) (σ 100 5) = 1 ∧ mBit (σ 100 0) (σ 100 6) = 1 ∧ σ 100 5 ≠ σ 100 6 → ¬ (0 ≤ ef ∧ ef ≤ 4) → r = -2) ∧ (mBit (σ 100 0) (σ 100 5) = 1 ∧ mBit (σ 100 0) (σ 100 6) = 1 ∧ σ 100 5 ≠ σ 100 6 → 0 ≤ ef ∧ ef ≤ 4 → r = mSum (jSrF σ ef) 5) ∧ (∀ c : Int, c ≠ 117 → τ c = σ c))) ([.ref (a 100), .int (iI ef)] : List Value).toArray s 0 0 (inA a)) (F0 m 24 ls []) := by
        intro n
        induction n with
        | zero =>
          intros; omega
        | succ n ih_24 =>
          intro bits i τ H locs hP hS ls ii fτ iv hm hl
          have hbs := mBS_b (jSrF_b σ ef) i.toNat
          rw [← iv] at hbs
          have htl2 := two_le 0 i.toNat (by omega)
          refine z_iload_n C hl 3 rfl dX8_sorts_24 ?_
          refine z_iconst C dX8_sorts_25 ?_
          refine z_icmp_ge C 117 dX8_sorts_26 (by decide) ⟨by omega, by omega⟩ ⟨by omega, by omega⟩ (fun c_26 => ?_) (fun c_26 => ?_)
          · refine z_iload_n C hl 2 rfl dX8_sorts_117 ?_
            exact z_retQi C hP hS hr hlocks rfl (by exact ⟨fun h => absurd h b_1, fun _ h => absurd b_11 h, fun _ _ => (by rw [iv, show i = 5 from (by omega)]; rfl), fτ⟩) dX8_sorts_118
          · refine z_aload_n C hl 0 rfl dX8_sorts_29 ?_
            refine z_aload_n C hl 0 rfl dX8_sorts_30 ?_
            refine zg_X8_113 C hP dX8_sorts_31 ?_
            rw [show τ 100 5 = σ 100 5 from by rw [fτ 100 (by omega)]]
            refine z_aload_n C hl 0 rfl dX8_sorts_34 ?_
            refine zg_X8_68 C hP dX8_sorts_35 ?_
            rw [show τ 100 6 = σ 100 6 from by rw [fτ 100 (by omega)]]
            refine z_iload_n C hl 3 rfl dX8_sorts_38 ?_
            refine z_sSi C hP (As := [.int (iI i)]) lk_X8_264 (c_X8_sortOf hI τ i (by omega)) rfl hl.1 rfl (Nat.le_of_ble_eq_true rfl) ⟨Nat.le_of_ble_eq_true rfl, Nat.le_of_ble_eq_true rfl⟩ ⟨Nat.zero_le _, Nat.zero_le _⟩ dX8_sorts_39 ?_
            rw [show (if i = 0 then 46 else if i = 1 then 117 else if i = 2 then 85 else if i = 3 then 100 else 68 : Int) = jChr i from rfl]
            refine z_vQv hS C hP (As := [.int (iI (σ 100 5)), .int (iI (σ 100 6)), .int (iI (jChr i))]) lk_X8_240 (c_X8_findQuickest hI τ (σ 100 5) (σ 100 6) (jChr i) hse.1 hse.2 (jChr_b i) (by rw [fτ 101 (by omega), fτ 102 (by omega), fτ 103 (by omega)]; exact hrd)) ob_100 rfl rfl rfl hl.1 rfl (Nat.le_of_ble_eq_true rfl) ⟨Nat.le_of_ble_eq_true rfl, Nat.le_of_ble_eq_true rfl⟩ ⟨Nat.zero_le _, Nat.zero_le _⟩ dX8_sorts_42 (fun t2 H locs hp42 hP hS => ?_)
            have ft2 : ∀ c : Int, c ≠ 117 → t2 c = σ c := fun c hc => by rw [hp42.1 c hc, fτ c hc]
            have qt2 : jQ σ t2 (σ 100 5) (σ 100 6) (jChr i) := fun e h1 h2 => by rw [hp42.2 e h1 h2, jQk_c (fτ 101 (by omega)) (fτ 102 (by omega))]
            refine z_aload_n C hl 0 rfl dX8_sorts_45 ?_
            refine z_aload_n C hl 0 rfl dX8_sorts_46 ?_
            refine zg_X8_113 C hP dX8_sorts_47 ?_
            rw [show t2 100 5 = σ 100 5 from by rw [ft2 100 (by omega)]]
            refine z_iload_n C hl 1 rfl dX8_sorts_50 ?_
            refine z_iload_n C hl 3 rfl dX8_sorts_51 ?_
            refine z_sSi C hP (As := [.int (iI i)]) lk_X8_264 (c_X8_sortOf hI t2 i (by omega)) rfl hl.1 rfl (Nat.le_of_ble_eq_true rfl) ⟨Nat.le_of_ble_eq_true rfl, Nat.le_of_ble_eq_true rfl⟩ ⟨Nat.zero_le _, Nat.zero_le _⟩ dX8_sorts_52 ?_
            rw [show (if i = 0 then 46 else if i = 1 then 117 else if i = 2 then 85 else if i = 3 then 100 else 68 : Int) = jChr i from rfl]
            refine z_vSi C hP (As := [.int (iI (σ 100 5)), .int (iI ef), .int (iI (jChr i))]) lk_X8_261 (c_X8_alone hI t2 (σ 100 5) ef (jChr i) hse.1 (jChr_b i) b_11 (by rw [ft2 102 (by omega)]; exact htl _ hse.1.1 hse.1.2 hst.1) (by rw [ft2 101 (by omega), ft2 102 (by omega), ft2 103 (by omega)]; exact hrd)) ob_100 rfl rfl rfl hl.1 rfl (Nat.le_of_ble_eq_true rfl) ⟨Nat.le_of_ble_eq_true rfl, Nat.le_of_ble_eq_true rfl⟩ ⟨Nat.zero_le _, Nat.zero_le _⟩ dX8_sorts_55 ?_
            rw [ft2 101 (by omega), ft2 102 (by omega)]
            rw [show mSec (mHard (mSort (jChr i)) / 2) (mTread (σ 101 (σ 100 5)) (σ 102 (σ 100 5)) ef (σ 102 (σ 100 5))) = jAl σ (σ 100 5) ef (jChr i) from rfl]
            have ha1 := jAl_b σ (σ 100 5) ef (jChr i)
            refine z_topi (fun x3 hx3 => ?_)
            refine z_istore C [1, 2, 3, 4, 0] [(0, .ref (a 100)), (1, .int (iI ef)), (2, .int (iI bits)), (3, .int (iI i)), (4, .int (iI x3))] hl (by decide) rfl dX8_sorts_58 (fun ls hl => ?_)
            refine z_aload_n C hl 0 rfl dX8_sorts_60 ?_
            refine z_aload_n C hl 0 rfl dX8_sorts_61 ?_
            refine zg_X8_68 C hP dX8_sorts_62 ?_
            rw [show t2 100 6 = σ 100 6 from by rw [ft2 100 (by omega)]]
            refine z_iload_n C hl 1 rfl dX8_sorts_65 ?_
            refine z_iload_n C hl 3 rfl dX8_sorts_66 ?_
            refine z_sSi C hP (As := [.int (iI i)]) lk_X8_264 (c_X8_sortOf hI t2 i (by omega)) rfl hl.1 rfl (Nat.le_of_ble_eq_true rfl) ⟨Nat.le_of_ble_eq_true rfl, Nat.le_of_ble_eq_true rfl⟩ ⟨Nat.zero_le _, Nat.zero_le _⟩ dX8_sorts_67 ?_
            rw [show (if i = 0 then 46 else if i = 1 then 117 else if i = 2 then 85 else if i = 3 then 100 else 68 : Int) = jChr i from rfl]
            refine z_vSi C hP (As := [.int (iI (σ 100 6)), .int (iI ef), .int (iI (jChr i))]) lk_X8_261 (c_X8_alone hI t2 (σ 100 6) ef (jChr i) hse.2 (jChr_b i) b_11 (by rw [ft2 102 (by omega)]; exact htl _ hse.2.1 hse.2.2 hst.2.1) (by rw [ft2 101 (by omega), ft2 102 (by omega), ft2 103 (by omega)]; exact hrd)) ob_100 rfl rfl rfl hl.1 rfl (Nat.le_of_ble_eq_true rfl) ⟨Nat.le_of_ble_eq_true rfl, Nat.le_of_ble_eq_true rfl⟩ ⟨Nat.zero_le _, Nat.zero_le _⟩ dX8_sorts_70 ?_
            rw [ft2 101 (by omega), ft2 102 (by omega)]
            rw [show mSec (mHard (mSort (jChr i)) / 2) (mTread (σ 101 (σ 100 6)) (σ 102 (σ 100 6)) ef (σ 102 (σ 100 6))) = jAl σ (σ 100 6) ef (jChr i) from rfl]
            have ha2 := jAl_b σ (σ 100 6) ef (jChr i)
            refine z_topi (fun x4 hx4 => ?_)
            refine z_istore C [1, 2, 3, 4, 5, 0] [(0, .ref (a 100)), (1, .int (iI ef)), (2, .int (iI bits)), (3, .int (iI i)), (4, .int (iI x3)), (5, .int (iI x4))] hl (by decide) rfl dX8_sorts_73 (fun ls hl => ?_)
            refine z_iload_n C hl 2 rfl dX8_sorts_75 ?_
            refine z_aload_n C hl 0 rfl dX8_sorts_76 ?_
            refine zg_X8_58 C hP dX8_sorts_77 ?_
            refine z_bipush C (by decide +kernel) dX8_sorts_80 ?_
            refine z_iload_n C hl 1 rfl dX8_sorts_82 ?_
            refine z_imul C dX8_sorts_83 ?_
            refine z_iald C hP ia_117 ⟨by omega, by omega⟩ dX8_sorts_84 ?_
            rw [qt2 (6 * ef) (by omega) (by omega)]
            have hqb := jQk_b σ (σ 100 5) (σ 100 6) (jChr i) (6 * ef)
            refine z_iload C hl 4 rfl dX8_sorts_85 ?_
            refine z_iload C hl 5 rfl dX8_sorts_87 ?_
            refine z_icmp_ge C 97 dX8_sorts_89 (by decide) ⟨by omega, by omega⟩ ⟨by omega, by omega⟩ (fun c_89 => ?_) (fun c_89 => ?_)
            · refine z_iload C hl 5 rfl dX8_sorts_97 ?_
              refine z_icmp_ge C 108 dX8_sorts_99 (by decide) ⟨by omega, by omega⟩ ⟨by omega, by omega⟩ (fun c_99 => ?_) (fun c_99 => ?_)
              · refine z_iconst C dX8_sorts_108 ?_
                refine z_ior C bits (z_or0 _) dX8_sorts_109 ?_
                refine z_istore_n C [1, 2, 0, 3, 4, 5] [(0, .ref (a 100)), (1, .int (iI ef)), (2, .int (iI bits)), (3, .int (iI i)), (4, .int (iI x3)), (5, .int (iI x4))] hl (by decide) rfl dX8_sorts_110 (fun ls hl => ?_)
                refine z_iinc C 3 [1, 2, 3, 0, 4, 5] [(0, .ref (a 100)), (1, .int (iI ef)), (2, .int (iI bits)), (3, .int (iI (i + 1))), (4, .int (iI x3)), (5, .int (iI x4))] hl rfl (by decide) rfl dX8_sorts_111 (fun ls hl => ?_)
                refine z_goto C 24 dX8_sorts_114 (by decide) ?_
                exact ih_24 bits (i + 1) t2 H locs hP hS ls (by omega) (by exact ft2) (by rw [mSum_s _ ii.1, ← iv]; unfold jSrF; first | (rw [if_pos (by omega)]; first | done | omega) | (rw [if_neg (by omega)]; first | done | omega)) (by omega) (lv_sub hl [0, 1, 2, 3] rfl)
              · refine z_iconst C dX8_sorts_102 ?_
                refine z_iload_n C hl 3 rfl dX8_sorts_103 ?_
                refine z_ishl C (2 ^ i.toNat) (z_shl1 ⟨by omega, by omega⟩) dX8_sorts_104 ?_
                refine z_goto C 109 dX8_sorts_105 (by decide) ?_
                refine z_ior C (bits + 2 ^ i.toNat) (z_orhi ⟨by omega, by omega⟩ hbs) dX8_sorts_109 ?_
                refine z_topi (fun x5 hx5 => ?_)
                refine z_istore_n C [1, 2, 0, 3, 4, 5] [(0, .ref (a 100)), (1, .int (iI ef)), (2, .int (iI x5)), (3, .int (iI i)), (4, .int (iI x3)), (5, .int (iI x4))] hl (by decide) rfl dX8_sorts_110 (fun ls hl => ?_)
                refine z_iinc C 3 [1, 2, 3, 0, 4, 5] [(0, .ref (a 100)), (1, .int (iI ef)), (2, .int (iI x5)), (3, .int (iI (i + 1))), (4, .int (iI x3)), (5, .int (iI x4))] hl rfl (by decide) rfl dX8_sorts_111 (fun ls hl => ?_)
                refine z_goto C 24 dX8_sorts_114 (by decide) ?_
                exact ih_24 x5 (i + 1) t2 H locs hP hS ls (by omega) (by exact ft2) (by rw [mSum_s _ ii.1, ← iv]; unfold jSrF; first | (rw [if_pos (by omega)]; first | done | omega) | (rw [if_neg (by omega)]; first | done | omega)) (by omega) (lv_sub hl [0, 1, 2, 3] rfl)
            · refine z_iload C hl 4 rfl dX8_sorts_92 ?_
              refine z_goto C 99 dX8_sorts_94 (by decide) ?_
              refine z_icmp_ge C 108 dX8_sorts_99 (by decide) ⟨by omega, by omega⟩ ⟨by omega, by omega⟩ (fun c_99 => ?_) (fun c_99 => ?_)
              · refine z_iconst C dX8_sorts_108 ?_
                refine z_ior C bits (z_or0 _) dX8_sorts_109 ?_
                refine z_istore_n C [1, 2, 0, 3, 4, 5] [(0, .ref (a 100)), (1, .int (iI ef)), (2, .int (iI bits)), (3, .int (iI i)), (4, .int (iI x3)), (5, .int (iI x4))] hl (by decide) rfl dX8_sorts_110 (fun ls hl => ?_)
                refine z_iinc C 3 [1, 2, 3, 0, 4, 5] [(0, .ref (a 100)), (1, .int (iI ef)), (2, .int (iI bits)), (3, .int (iI (i + 1))), (4, .int (iI x3)), (5, .int (iI x4))] hl rfl (by decide) rfl dX8_sorts_111 (fun ls hl => ?_)
                refine z_goto C 24 dX8_sorts_114 (by decide) ?_
                exact ih_24 bits (i + 1) t2 H locs hP hS ls (by omega) (by exact ft2) (by rw [mSum_s _ ii.1, ← iv]; unfold jSrF; first | (rw [if_pos (by omega)]; first | done | omega) | (rw [if_neg (by omega)]; first | done | omega)) (by omega) (lv_sub hl [0, 1, 2, 3] rfl)
              · refine z_iconst C dX8_sorts_102 ?_
                refine z_iload_n C hl 3 rfl dX8_sorts_103 ?_
                refine z_ishl C (2 ^ i.toNat) (z_shl1 ⟨by omega, by omega⟩) dX8_sorts_104 ?_
                refine z_goto C 109 dX8_sorts_105 (by decide) ?_
                refine z_ior C (bits + 2 ^ i.toNat) (z_orhi ⟨by omega, by omega⟩ hbs) dX8_sorts_109 ?_
                refine z_topi (fun x6 hx6 => ?_)
                refine z_istore_n C [1, 2, 0, 3, 4, 5] [(0, .ref (a 100)), (1, .int (iI ef)), (2, .int (iI x6)), (3, .int (iI i)), (4, .int (iI x3)), (5, .int (iI x4))] hl (by decide) rfl dX8_sorts_110 (fun ls hl => ?_)
                refine z_iinc C 3 [1, 2, 3, 0, 4, 5] [(0, .ref (a 100)), (1, .int (iI ef)), (2, .int (iI x6)), (3, .int (iI (i + 1))), (4, .int (iI x3)), (5, .int (iI x4))] hl rfl (by decide) rfl dX8_sorts_111 (fun ls hl => ?_)
                refine z_goto C 24 dX8_sorts_114 (by decide) ?_
                exact ih_24 x6 (i + 1) t2 H locs hP hS ls (by omega) (by exact ft2) (by rw [mSum_s _ ii.1, ← iv]; unfold jSrF; first | (rw [if_pos (by omega)]; first | done | omega) | (rw [if_neg (by omega)]; first | done | omega)) (by omega) (lv_sub hl [0, 1, 2, 3] rfl)
      exact L_24 _ 0 0 σ _ _ hP hS ls (by omega) (by intro c hc; rfl) (by rfl) (Nat.lt_succ_self _) (lv_sub hl [0, 1, 2, 3] rfl)
    · rw [show (if 0 ≤ ef ∧ ef ≤ 4 then (1 : Int) else 0) = 0 from if_neg b_11]
      refine z_ifF_ne C 20 dX8_sorts_14 (by decide) ⟨by decide, by decide⟩ (by decide) ?_
      refine z_bipush C (by decide +kernel) dX8_sorts_17 ?_
      exact z_retQi C hP hS hr hlocks rfl (by exact ⟨fun h => absurd h b_1, fun _ _ => rfl, fun _ h => absurd h b_11, fun _ _ => rfl⟩) dX8_sorts_19

def jPu (σ : zS) (ef eb p k : Int) : Int := mPush (σ 101 (σ 100 5)) (σ 101 (σ 100 6)) ef eb p k
def jUn (σ : zS) (ef eb p : Int) : Int := mMxS (-1) (jPu σ ef eb p) 12 - mMnS 1000000 (jPu σ ef eb p) 12
set_option maxRecDepth 20000 in
set_option maxHeartbeats 4000000 in
theorem c_X8_unevenBy {l : Launch} {D : va_G} {Y : Nat → ClassId} {a : Int → Nat} (hI : zI a) (σ : zS) (ef eb p0 : Int) (hse : (0 ≤ σ 100 5 ∧ σ 100 5 ≤ 3) ∧ (0 ≤ σ 100 6 ∧ σ 100 6 ≤ 3)) (hrd : ∀ r : Int, 0 ≤ r → r ≤ 3 → (0 ≤ σ 101 r ∧ σ 101 r ≤ 20) ∧ (0 ≤ σ 102 r ∧ σ 102 r ≤ 10) ∧ (0 ≤ σ 103 r ∧ σ 103 r ≤ 9)) (hef : 0 ≤ ef ∧ ef ≤ 4) (heb : 0 ≤ eb ∧ eb ≤ 4) (hp : 0 ≤ p0 ∧ p0 ≤ 11) : zMet l yX8_unevenBy cX8_unevenBy 8 (some .int) 1 (zPc D Y a σ [.ref (a 100), .int (iI ef), .int (iI eb), .int (iI p0)]) (zSi (jUn σ ef eb p0)) zNo := by
  refine z_start rfl (Nat.le_of_ble_eq_true rfl) hI ?_
  intro p e s m below meth c ls C hr hlocks hl hP
  have hl : lv_has ls 8 [(0, .ref (a 100)), (1, .int (iI ef)), (2, .int (iI eb)), (3, .int (iI p0))] := hl
  refine z_iconst C dX8_unevenBy_0 ?_
  refine z_istore C [1, 2, 3, 4, 0] [(0, .ref (a 100)), (1, .int (iI ef)), (2, .int (iI eb)), (3, .int (iI p0)), (4, .int (iI (-1)))] hl (by decide) rfl dX8_unevenBy_1 (fun ls hl => ?_)
  refine z_ldc C (z := 1000000) wd_556 (by decide +kernel) dX8_unevenBy_3 ?_
  refine z_istore C [1, 2, 3, 4, 5, 0] [(0, .ref (a 100)), (1, .int (iI ef)), (2, .int (iI eb)), (3, .int (iI p0)), (4, .int (iI (-1))), (5, .int (iI 1000000))] hl (by decide) rfl dX8_unevenBy_5 (fun ls hl => ?_)
  refine z_iconst C dX8_unevenBy_7 ?_
  refine z_istore C [1, 2, 3, 4, 5, 6, 0] [(0, .ref (a 100)), (1, .int (iI ef)), (2, .int (iI eb)), (3, .int (iI p0)), (4, .int (iI (-1))), (5, .int (iI 1000000)), (6, .int (iI 0))] hl (by decide) rfl dX8_unevenBy_8 (fun ls hl => ?_)
  have L_10 : ∀ (n : Nat) (mx : Int) (mn : Int) (k : Int) (ls : Array Slot), (0 ≤ k ∧ k ≤ 12) → (mx = mMxS (-1) (jPu σ ef eb p0) k.toNat) → (mn = mMnS 1000000 (jPu σ ef eb p0) k.toNat) → (-1 ≤ mx ∧ mx ≤ 960) → (0 ≤ mn ∧ mn ≤ 1000000) → ((12 - k).toNat) < n → lv_has ls 8 [(0, .ref (a 100)), (1, .int (iI ef)), (2, .int (iI eb)), (3, .int (iI p0)), (4, .int (iI mx)), (5, .int (iI mn)), (6, .int (iI k))] → W p l e (zR 1) s m ([.ref (a 100), .int (iI ef), .int (iI eb), .int (iI p0)] : List Value).toArray below meth c s.heap [] 0 0 (MQ below (zSi (jUn σ ef eb p0)) ([.ref (a 100), .int (iI ef), .int (iI eb), .int (iI p0)] : List Value).toArray s 0 0 zNo) (F0 m 10 ls []) := by
    intro n
    induction n with
    | zero =>
      intros; omega
    | succ n ih_10 =>
      intro mx mn k ls ik iv iw ix iy hm hl
      refine z_iload C hl 6 rfl dX8_unevenBy_10 ?_
      refine z_bipush C (by decide +kernel) dX8_unevenBy_12 ?_
      refine z_icmp_ge C 97 dX8_unevenBy_14 (by decide) ⟨by omega, by omega⟩ ⟨by omega, by omega⟩ (fun c_14 => ?_) (fun c_14 => ?_)
      · refine z_iload C hl 4 rfl dX8_unevenBy_97 ?_
        refine z_iload C hl 5 rfl dX8_unevenBy_99 ?_
        refine z_isub C dX8_unevenBy_101 ?_
        exact z_retSi C hr hlocks rfl (by rw [iv, iw, show k = 12 from (by omega)]; rfl) dX8_unevenBy_102
      · refine z_iload_n C hl 1 rfl dX8_unevenBy_17 ?_
        refine z_aload_n C hl 0 rfl dX8_unevenBy_18 ?_
        refine zg_X8_7 C hP dX8_unevenBy_19 ?_
        refine z_aload_n C hl 0 rfl dX8_unevenBy_22 ?_
        refine zg_X8_113 C hP dX8_unevenBy_23 ?_
        refine z_iald C hP ia_101 ⟨by omega, by omega⟩ dX8_unevenBy_26 ?_
        refine z_imul C dX8_unevenBy_27 ?_
        refine z_iload C hl 6 rfl dX8_unevenBy_28 ?_
        refine z_sSi C hP (As := [.int (iI k)]) lk_X8_267 (c_X8_fromSix hI σ k (by omega)) rfl hl.1 rfl (Nat.le_of_ble_eq_true rfl) ⟨Nat.le_of_ble_eq_true rfl, Nat.le_of_ble_eq_true rfl⟩ ⟨Nat.zero_le _, Nat.zero_le _⟩ dX8_unevenBy_30 ?_
        refine z_imul C dX8_unevenBy_33 ?_
        refine z_iload_n C hl 2 rfl dX8_unevenBy_34 ?_
        refine z_aload_n C hl 0 rfl dX8_unevenBy_35 ?_
        refine zg_X8_7 C hP dX8_unevenBy_36 ?_
        refine z_aload_n C hl 0 rfl dX8_unevenBy_39 ?_
        refine zg_X8_68 C hP dX8_unevenBy_40 ?_
        refine z_iald C hP ia_101 ⟨by omega, by omega⟩ dX8_unevenBy_43 ?_
        refine z_imul C dX8_unevenBy_44 ?_
        refine z_iload C hl 6 rfl dX8_unevenBy_45 ?_
        refine z_iload_n C hl 3 rfl dX8_unevenBy_47 ?_
        refine z_iadd C dX8_unevenBy_48 ?_
        refine z_bipush C (by decide +kernel) dX8_unevenBy_49 ?_
        refine z_irem C ⟨by omega, by omega, by omega, by omega⟩ dX8_unevenBy_51 ?_
        refine z_sSi C hP (As := [.int (iI ((k + p0) % 12))]) lk_X8_267 (c_X8_fromSix hI σ ((k + p0) % 12) (by omega)) rfl hl.1 rfl (Nat.le_of_ble_eq_true rfl) ⟨Nat.le_of_ble_eq_true rfl, Nat.le_of_ble_eq_true rfl⟩ ⟨Nat.zero_le _, Nat.zero_le _⟩ dX8_unevenBy_52 ?_
        refine z_imul C dX8_unevenBy_55 ?_
        refine z_iadd C dX8_unevenBy_56 ?_
        refine z_topi (fun x1 hx1 => ?_)
        refine z_istore C [1, 2, 3, 4, 5, 6, 7, 0] [(0, .ref (a 100)), (1, .int (iI ef)), (2, .int (iI eb)), (3, .int (iI p0)), (4, .int (iI mx)), (5, .int (iI mn)), (6, .int (iI k)), (7, .int (iI x1))] hl (by decide) rfl dX8_unevenBy_57 (fun ls hl => ?_)
        have hpk := mPush_b (k := k) (p := p0) (hrd _ hse.1.1 hse.1.2).1 (hrd _ hse.2.1 hse.2.2).1 hef heb hp (by omega)
        have hpx0 : mPush (σ 101 (σ 100 5)) (σ 101 (σ 100 6)) ef eb p0 k = x1 := hx1
        rw [hpx0] at hpk
        have hpx : jPu σ ef eb p0 k = x1 := hx1
        refine z_iload C hl 7 rfl dX8_unevenBy_59 ?_
        refine z_iload C hl 4 rfl dX8_unevenBy_61 ?_
        refine z_icmp_le C 71 dX8_unevenBy_63 (by decide) ⟨by omega, by omega⟩ ⟨by omega, by omega⟩ (fun c_63 => ?_) (fun c_63 => ?_)
        · refine z_iload C hl 4 rfl dX8_unevenBy_71 ?_
          refine z_istore C [1, 2, 3, 4, 0, 5, 6, 7] [(0, .ref (a 100)), (1, .int (iI ef)), (2, .int (iI eb)), (3, .int (iI p0)), (4, .int (iI mx)), (5, .int (iI mn)), (6, .int (iI k)), (7, .int (iI x1))] hl (by decide) rfl dX8_unevenBy_73 (fun ls hl => ?_)
          refine z_iload C hl 7 rfl dX8_unevenBy_75 ?_
          refine z_iload C hl 5 rfl dX8_unevenBy_77 ?_
          refine z_icmp_ge C 87 dX8_unevenBy_79 (by decide) ⟨by omega, by omega⟩ ⟨by omega, by omega⟩ (fun c_79 => ?_) (fun c_79 => ?_)
          · refine z_iload C hl 5 rfl dX8_unevenBy_87 ?_
            refine z_istore C [1, 2, 3, 4, 5, 0, 6, 7] [(0, .ref (a 100)), (1, .int (iI ef)), (2, .int (iI eb)), (3, .int (iI p0)), (4, .int (iI mx)), (5, .int (iI mn)), (6, .int (iI k)), (7, .int (iI x1))] hl (by decide) rfl dX8_unevenBy_89 (fun ls hl => ?_)
            refine z_iinc C 6 [1, 2, 3, 4, 5, 6, 0, 7] [(0, .ref (a 100)), (1, .int (iI ef)), (2, .int (iI eb)), (3, .int (iI p0)), (4, .int (iI mx)), (5, .int (iI mn)), (6, .int (iI (k + 1))), (7, .int (iI x1))] hl rfl (by decide) rfl dX8_unevenBy_91 (fun ls hl => ?_)
            refine z_goto C 10 dX8_unevenBy_94 (by decide) ?_
            exact ih_10 mx mn (k + 1) ls (by omega) (by rw [mMxS_s _ _ (by omega), ← iv, hpx]; omega) (by rw [mMnS_s _ _ (by omega), ← iw, hpx]; omega) (by omega) (by omega) (by omega) (lv_sub hl [0, 1, 2, 3, 4, 5, 6] rfl)
          · refine z_iload C hl 7 rfl dX8_unevenBy_82 ?_
            refine z_goto C 89 dX8_unevenBy_84 (by decide) ?_
            refine z_istore C [1, 2, 3, 4, 5, 0, 6, 7] [(0, .ref (a 100)), (1, .int (iI ef)), (2, .int (iI eb)), (3, .int (iI p0)), (4, .int (iI mx)), (5, .int (iI x1)), (6, .int (iI k)), (7, .int (iI x1))] hl (by decide) rfl dX8_unevenBy_89 (fun ls hl => ?_)
            refine z_iinc C 6 [1, 2, 3, 4, 5, 6, 0, 7] [(0, .ref (a 100)), (1, .int (iI ef)), (2, .int (iI eb)), (3, .int (iI p0)), (4, .int (iI mx)), (5, .int (iI x1)), (6, .int (iI (k + 1))), (7, .int (iI x1))] hl rfl (by decide) rfl dX8_unevenBy_91 (fun ls hl => ?_)
            refine z_goto C 10 dX8_unevenBy_94 (by decide) ?_
            exact ih_10 mx x1 (k + 1) ls (by omega) (by rw [mMxS_s _ _ (by omega), ← iv, hpx]; omega) (by rw [mMnS_s _ _ (by omega), ← iw, hpx]; omega) (by omega) (by omega) (by omega) (lv_sub hl [0, 1, 2, 3, 4, 5, 6] rfl)
        · refine z_iload C hl 7 rfl dX8_unevenBy_66 ?_
          refine z_goto C 73 dX8_unevenBy_68 (by decide) ?_
          refine z_istore C [1, 2, 3, 4, 0, 5, 6, 7] [(0, .ref (a 100)), (1, .int (iI ef)), (2, .int (iI eb)), (3, .int (iI p0)), (4, .int (iI x1)), (5, .int (iI mn)), (6, .int (iI k)), (7, .int (iI x1))] hl (by decide) rfl dX8_unevenBy_73 (fun ls hl => ?_)
          refine z_iload C hl 7 rfl dX8_unevenBy_75 ?_
          refine z_iload C hl 5 rfl dX8_unevenBy_77 ?_
          refine z_icmp_ge C 87 dX8_unevenBy_79 (by decide) ⟨by omega, by omega⟩ ⟨by omega, by omega⟩ (fun c_79 => ?_) (fun c_79 => ?_)
          · refine z_iload C hl 5 rfl dX8_unevenBy_87 ?_
            refine z_istore C [1, 2, 3, 4, 5, 0, 6, 7] [(0, .ref (a 100)), (1, .int (iI ef)), (2, .int (iI eb)), (3, .int (iI p0)), (4, .int (iI x1)), (5, .int (iI mn)), (6, .int (iI k)), (7, .int (iI x1))] hl (by decide) rfl dX8_unevenBy_89 (fun ls hl => ?_)
            refine z_iinc C 6 [1, 2, 3, 4, 5, 6, 0, 7] [(0, .ref (a 100)), (1, .int (iI ef)), (2, .int (iI eb)), (3, .int (iI p0)), (4, .int (iI x1)), (5, .int (iI mn)), (6, .int (iI (k + 1))), (7, .int (iI x1))] hl rfl (by decide) rfl dX8_unevenBy_91 (fun ls hl => ?_)
            refine z_goto C 10 dX8_unevenBy_94 (by decide) ?_
            exact ih_10 x1 mn (k + 1) ls (by omega) (by rw [mMxS_s _ _ (by omega), ← iv, hpx]; omega) (by rw [mMnS_s _ _ (by omega), ← iw, hpx]; omega) (by omega) (by omega) (by omega) (lv_sub hl [0, 1, 2, 3, 4, 5, 6] rfl)
          · refine z_iload C hl 7 rfl dX8_unevenBy_82 ?_
            refine z_goto C 89 dX8_unevenBy_84 (by decide) ?_
            refine z_istore C [1, 2, 3, 4, 5, 0, 6, 7] [(0, .ref (a 100)), (1, .int (iI ef)), (2, .int (iI eb)), (3, .int (iI p0)), (4, .int (iI x1)), (5, .int (iI x1)), (6, .int (iI k)), (7, .int (iI x1))] hl (by decide) rfl dX8_unevenBy_89 (fun ls hl => ?_)
            refine z_iinc C 6 [1, 2, 3, 4, 5, 6, 0, 7] [(0, .ref (a 100)), (1, .int (iI ef)), (2, .int (iI eb)), (3, .int (iI p0)), (4, .int (iI x1)), (5, .int (iI x1)), (6, .int (iI (k + 1))), (7, .int (iI x1))] hl rfl (by decide) rfl dX8_unevenBy_91 (fun ls hl => ?_)
            refine z_goto C 10 dX8_unevenBy_94 (by decide) ?_
            exact ih_10 x1 x1 (k + 1) ls (by omega) (by rw [mMxS_s _ _ (by omega), ← iv, hpx]; omega) (by rw [mMnS_s _ _ (by omega), ← iw, hpx]; omega) (by omega) (by omega) (by omega) (lv_sub hl [0, 1, 2, 3, 4, 5, 6] rfl)
  exact L_10 _ (-1) 1000000 0 ls (by omega) (by rfl) (by rfl) (by omega) (by omega) (Nat.lt_succ_self _) (lv_sub hl [0, 1, 2, 3, 4, 5, 6] rfl)

theorem jUn_b {σ : zS} (hse : (0 ≤ σ 100 5 ∧ σ 100 5 ≤ 3) ∧ (0 ≤ σ 100 6 ∧ σ 100 6 ≤ 3)) (hrd : ∀ r : Int, 0 ≤ r → r ≤ 3 → (0 ≤ σ 101 r ∧ σ 101 r ≤ 20) ∧ (0 ≤ σ 102 r ∧ σ 102 r ≤ 10) ∧ (0 ≤ σ 103 r ∧ σ 103 r ≤ 9)) {ef eb p0 : Int} (hef : 0 ≤ ef ∧ ef ≤ 4) (heb : 0 ≤ eb ∧ eb ≤ 4) (hp : 0 ≤ p0 ∧ p0 ≤ 11) : -2000000 ≤ jUn σ ef eb p0 ∧ jUn σ ef eb p0 ≤ 2000000 := by
  have hb : ∀ i : Int, 0 ≤ i → i < 12 → 0 ≤ jPu σ ef eb p0 i ∧ jPu σ ef eb p0 i ≤ 960 := fun i h1 h2 => by
    have := mPush_b (k := i) (p := p0) (hrd _ hse.1.1 hse.1.2).1 (hrd _ hse.2.1 hse.2.2).1 hef heb hp (by omega)
    exact ⟨this.1, this.2.1⟩
  have h2 := mMnS_b (s := 1000000) (f := jPu σ ef eb p0) (A := 1000000) (by omega) (n := 12) (fun i h1 h2 => by have := hb i h1 (by omega); omega)
  have key : ∀ n : Nat, n ≤ 12 → -1 ≤ mMxS (-1) (jPu σ ef eb p0) n ∧ mMxS (-1) (jPu σ ef eb p0) n ≤ 960 := by
    intro n
    induction n with
    | zero => intro _; exact ⟨Int.le_refl _, by show (-1 : Int) ≤ 960; decide⟩
    | succ n ih =>
      intro hn
      have h3 := ih (by omega)
      have h4 := hb n (by omega) (by omega)
      show -1 ≤ max (mMxS (-1) (jPu σ ef eb p0) n) (jPu σ ef eb p0 n) ∧ max (mMxS (-1) (jPu σ ef eb p0) n) (jPu σ ef eb p0 n) ≤ 960
      omega
  have h3 := key 12 (by omega)
  unfold jUn
  omega
set_option maxRecDepth 20000 in
set_option maxHeartbeats 4000000 in
theorem c_X8_uneven {l : Launch} {D : va_G} {Y : Nat → ClassId} {a : Int → Nat} (hI : zI a) (σ : zS) (ef eb p0 : Int) (r1 : R3 ef) (r2 : R3 eb) (r3 : R3 p0) (hrb : 0 ≤ σ 100 0 ∧ σ 100 0 ≤ 15) (hse : (0 ≤ σ 100 5 ∧ σ 100 5 ≤ 3) ∧ (0 ≤ σ 100 6 ∧ σ 100 6 ≤ 3)) (hrd : ∀ r : Int, 0 ≤ r → r ≤ 3 → (0 ≤ σ 101 r ∧ σ 101 r ≤ 20) ∧ (0 ≤ σ 102 r ∧ σ 102 r ≤ 10) ∧ (0 ≤ σ 103 r ∧ σ 103 r ≤ 9)) : zMet l yX8_uneven cX8_uneven 4 (some .int) 4 (zPc D Y a σ [.ref (a 100), .int (iI ef), .int (iI eb), .int (iI p0)]) (zSi (if mBit (σ 100 0) (σ 100 5) = 1 ∧ mBit (σ 100 0) (σ 100 6) = 1 ∧ σ 100 5 ≠ σ 100 6 then (if (0 ≤ ef ∧ ef ≤ 4) ∧ (0 ≤ eb ∧ eb ≤ 4) ∧ 0 ≤ p0 ∧ p0 ≤ 11 then jUn σ ef eb p0 else -2) else -3)) zNo := by
  refine z_start rfl (Nat.le_of_ble_eq_true rfl) hI ?_
  intro p e s m below meth c ls C hr hlocks hl hP
  have hl : lv_has ls 4 [(0, .ref (a 100)), (1, .int (iI ef)), (2, .int (iI eb)), (3, .int (iI p0))] := hl
  refine z_aload_n C hl 0 rfl dX8_uneven_0 ?_
  refine z_vSi C hP (As := []) lk_X8_206 (c_X8_isNobody hI σ  hrb hse) ob_100 rfl rfl rfl hl.1 rfl (Nat.le_of_ble_eq_true rfl) ⟨Nat.le_of_ble_eq_true rfl, Nat.le_of_ble_eq_true rfl⟩ ⟨Nat.zero_le _, Nat.zero_le _⟩ dX8_uneven_1 ?_
  by_cases b_1 : ¬ (mBit (σ 100 0) (σ 100 5) = 1 ∧ mBit (σ 100 0) (σ 100 6) = 1 ∧ σ 100 5 ≠ σ 100 6)
  · rw [show (if ¬ (mBit (σ 100 0) (σ 100 5) = 1 ∧ mBit (σ 100 0) (σ 100 6) = 1 ∧ σ 100 5 ≠ σ 100 6) then (1 : Int) else 0) = 1 from if_pos b_1]
    refine z_ifF_eq C 10 dX8_uneven_4 (by decide) ⟨by decide, by decide⟩ (by decide) ?_
    refine z_bipush C (by decide +kernel) dX8_uneven_7 ?_
    exact z_retSi C hr hlocks rfl (by first | (rw [if_neg b_1]; done) | (rw [if_pos (Classical.byContradiction b_1), if_neg (by omega)]; done) | (rw [if_pos (Classical.byContradiction b_1), if_pos (by omega)]; done)) dX8_uneven_9
  · rw [show (if ¬ (mBit (σ 100 0) (σ 100 5) = 1 ∧ mBit (σ 100 0) (σ 100 6) = 1 ∧ σ 100 5 ≠ σ 100 6) then (1 : Int) else 0) = 0 from if_neg b_1]
    refine z_ifT_eq C 10 dX8_uneven_4 (by decide) ⟨by decide, by decide⟩ (by decide) ?_
    refine z_iload_n C hl 1 rfl dX8_uneven_10 ?_
    refine z_sSi C hP (As := [.int (iI ef)]) lk_X8_149 (c_X8_isEffort hI σ ef r1) rfl hl.1 rfl (Nat.le_of_ble_eq_true rfl) ⟨Nat.le_of_ble_eq_true rfl, Nat.le_of_ble_eq_true rfl⟩ ⟨Nat.zero_le _, Nat.zero_le _⟩ dX8_uneven_11 ?_
    by_cases b_11 : 0 ≤ ef ∧ ef ≤ 4
    · rw [show (if 0 ≤ ef ∧ ef ≤ 4 then (1 : Int) else 0) = 1 from if_pos b_11]
      refine z_ifF_eq C 46 dX8_uneven_14 (by decide) ⟨by decide, by decide⟩ (by decide) ?_
      refine z_iload_n C hl 2 rfl dX8_uneven_17 ?_
      refine z_sSi C hP (As := [.int (iI eb)]) lk_X8_149 (c_X8_isEffort hI σ eb r2) rfl hl.1 rfl (Nat.le_of_ble_eq_true rfl) ⟨Nat.le_of_ble_eq_true rfl, Nat.le_of_ble_eq_true rfl⟩ ⟨Nat.zero_le _, Nat.zero_le _⟩ dX8_uneven_18 ?_
      by_cases b_18 : 0 ≤ eb ∧ eb ≤ 4
      · rw [show (if 0 ≤ eb ∧ eb ≤ 4 then (1 : Int) else 0) = 1 from if_pos b_18]
        refine z_ifF_eq C 46 dX8_uneven_21 (by decide) ⟨by decide, by decide⟩ (by decide) ?_
        refine z_iload_n C hl 3 rfl dX8_uneven_24 ?_
        refine z_i2l C ⟨by omega, by omega⟩ dX8_uneven_25 ?_
        refine z_lconst C (z := 0) rfl dX8_uneven_26 ?_
        refine z_ldc2 C (z := 11) wd_665 (by decide +kernel) dX8_uneven_27 ?_
        refine z_sSi C hP (As := [.long (jI p0), .long (jI 0), .long (jI 11)]) lk_X8_86 (c_X8_in hI σ p0 0 11 ⟨by omega, by omega⟩ ⟨by omega, by omega⟩ ⟨by omega, by omega⟩) rfl hl.1 rfl (Nat.le_of_ble_eq_true rfl) ⟨Nat.le_of_ble_eq_true rfl, Nat.le_of_ble_eq_true rfl⟩ ⟨Nat.zero_le _, Nat.zero_le _⟩ dX8_uneven_30 ?_
        by_cases b_30 : 0 ≤ p0 ∧ p0 ≤ 11
        · rw [show (if 0 ≤ p0 ∧ p0 ≤ 11 then (1 : Int) else 0) = 1 from if_pos b_30]
          refine z_ifF_eq C 46 dX8_uneven_33 (by decide) ⟨by decide, by decide⟩ (by decide) ?_
          refine z_aload_n C hl 0 rfl dX8_uneven_36 ?_
          refine z_iload_n C hl 1 rfl dX8_uneven_37 ?_
          refine z_iload_n C hl 2 rfl dX8_uneven_38 ?_
          refine z_iload_n C hl 3 rfl dX8_uneven_39 ?_
          refine z_vSi C hP (As := [.int (iI ef), .int (iI eb), .int (iI p0)]) lk_X8_272 (c_X8_unevenBy hI σ ef eb p0 hse hrd ⟨by omega, by omega⟩ ⟨by omega, by omega⟩ ⟨by omega, by omega⟩) ob_100 rfl rfl rfl hl.1 rfl (Nat.le_of_ble_eq_true rfl) ⟨Nat.le_of_ble_eq_true rfl, Nat.le_of_ble_eq_true rfl⟩ ⟨Nat.zero_le _, Nat.zero_le _⟩ dX8_uneven_40 ?_
          refine z_goto C 48 dX8_uneven_43 (by decide) ?_
          exact z_retSi C hr hlocks rfl (by first | (rw [if_neg b_1]; done) | (rw [if_pos (Classical.byContradiction b_1), if_neg (by omega)]; done) | (rw [if_pos (Classical.byContradiction b_1), if_pos (by omega)]; done)) dX8_uneven_48
        · rw [show (if 0 ≤ p0 ∧ p0 ≤ 11 then (1 : Int) else 0) = 0 from if_neg b_30]
          refine z_ifT_eq C 46 dX8_uneven_33 (by decide) ⟨by decide, by decide⟩ (by decide) ?_
          refine z_bipush C (by decide +kernel) dX8_uneven_46 ?_
          exact z_retSi C hr hlocks rfl (by first | (rw [if_neg b_1]; done) | (rw [if_pos (Classical.byContradiction b_1), if_neg (by omega)]; done) | (rw [if_pos (Classical.byContradiction b_1), if_pos (by omega)]; done)) dX8_uneven_48
      · rw [show (if 0 ≤ eb ∧ eb ≤ 4 then (1 : Int) else 0) = 0 from if_neg b_18]
        refine z_ifT_eq C 46 dX8_uneven_21 (by decide) ⟨by decide, by decide⟩ (by decide) ?_
        refine z_bipush C (by decide +kernel) dX8_uneven_46 ?_
        exact z_retSi C hr hlocks rfl (by first | (rw [if_neg b_1]; done) | (rw [if_pos (Classical.byContradiction b_1), if_neg (by omega)]; done) | (rw [if_pos (Classical.byContradiction b_1), if_pos (by omega)]; done)) dX8_uneven_48
    · rw [show (if 0 ≤ ef ∧ ef ≤ 4 then (1 : Int) else 0) = 0 from if_neg b_11]
      refine z_ifT_eq C 46 dX8_uneven_14 (by decide) ⟨by decide, by decide⟩ (by decide) ?_
      refine z_bipush C (by decide +kernel) dX8_uneven_46 ?_
      exact z_retSi C hr hlocks rfl (by first | (rw [if_neg b_1]; done) | (rw [if_pos (Classical.byContradiction b_1), if_neg (by omega)]; done) | (rw [if_pos (Classical.byContradiction b_1), if_pos (by omega)]; done)) dX8_uneven_48

set_option maxRecDepth 20000 in
set_option maxHeartbeats 4000000 in
theorem c_X8_evenest {l : Launch} {D : va_G} {Y : Nat → ClassId} {a : Int → Nat} (hI : zI a) (σ : zS) (ef eb : Int) (r1 : R3 ef) (r2 : R3 eb) (hrb : 0 ≤ σ 100 0 ∧ σ 100 0 ≤ 15) (hse : (0 ≤ σ 100 5 ∧ σ 100 5 ≤ 3) ∧ (0 ≤ σ 100 6 ∧ σ 100 6 ≤ 3)) (hrd : ∀ r : Int, 0 ≤ r → r ≤ 3 → (0 ≤ σ 101 r ∧ σ 101 r ≤ 20) ∧ (0 ≤ σ 102 r ∧ σ 102 r ≤ 10) ∧ (0 ≤ σ 103 r ∧ σ 103 r ≤ 9)) : zMet l yX8_evenest cX8_evenest 5 (some .int) 4 (zPc D Y a σ [.ref (a 100), .int (iI ef), .int (iI eb)]) (zSi (if mBit (σ 100 0) (σ 100 5) = 1 ∧ mBit (σ 100 0) (σ 100 6) = 1 ∧ σ 100 5 ≠ σ 100 6 then (if (0 ≤ ef ∧ ef ≤ 4) ∧ (0 ≤ eb ∧ eb ≤ 4) then mArg 0 (jUn σ ef eb) 11 else -2) else -3)) zNo := by
  refine z_start rfl (Nat.le_of_ble_eq_true rfl) hI ?_
  intro p e s m below meth c ls C hr hlocks hl hP
  have hl : lv_has ls 5 [(0, .ref (a 100)), (1, .int (iI ef)), (2, .int (iI eb))] := hl
  refine z_aload_n C hl 0 rfl dX8_evenest_0 ?_
  refine z_vSi C hP (As := []) lk_X8_206 (c_X8_isNobody hI σ  hrb hse) ob_100 rfl rfl rfl hl.1 rfl (Nat.le_of_ble_eq_true rfl) ⟨Nat.le_of_ble_eq_true rfl, Nat.le_of_ble_eq_true rfl⟩ ⟨Nat.zero_le _, Nat.zero_le _⟩ dX8_evenest_1 ?_
  by_cases b_1 : ¬ (mBit (σ 100 0) (σ 100 5) = 1 ∧ mBit (σ 100 0) (σ 100 6) = 1 ∧ σ 100 5 ≠ σ 100 6)
  · rw [show (if ¬ (mBit (σ 100 0) (σ 100 5) = 1 ∧ mBit (σ 100 0) (σ 100 6) = 1 ∧ σ 100 5 ≠ σ 100 6) then (1 : Int) else 0) = 1 from if_pos b_1]
    refine z_ifF_eq C 10 dX8_evenest_4 (by decide) ⟨by decide, by decide⟩ (by decide) ?_
    refine z_bipush C (by decide +kernel) dX8_evenest_7 ?_
    exact z_retSi C hr hlocks rfl (by first | (rw [if_neg b_1]; done) | (rw [if_pos (Classical.byContradiction b_1), if_neg (by omega)]; done) | (rw [if_pos (Classical.byContradiction b_1), if_pos (by omega), iv, show p0 = 12 from (by omega)]; rfl)) dX8_evenest_9
  · rw [show (if ¬ (mBit (σ 100 0) (σ 100 5) = 1 ∧ mBit (σ 100 0) (σ 100 6) = 1 ∧ σ 100 5 ≠ σ 100 6) then (1 : Int) else 0) = 0 from if_neg b_1]
    refine z_ifT_eq C 10 dX8_evenest_4 (by decide) ⟨by decide, by decide⟩ (by decide) ?_
    refine z_iload_n C hl 1 rfl dX8_evenest_10 ?_
    refine z_sSi C hP (As := [.int (iI ef)]) lk_X8_149 (c_X8_isEffort hI σ ef r1) rfl hl.1 rfl (Nat.le_of_ble_eq_true rfl) ⟨Nat.le_of_ble_eq_true rfl, Nat.le_of_ble_eq_true rfl⟩ ⟨Nat.zero_le _, Nat.zero_le _⟩ dX8_evenest_11 ?_
    by_cases b_11 : 0 ≤ ef ∧ ef ≤ 4
    · rw [show (if 0 ≤ ef ∧ ef ≤ 4 then (1 : Int) else 0) = 1 from if_pos b_11]
      refine z_ifF_eq C 24 dX8_evenest_14 (by decide) ⟨by decide, by decide⟩ (by decide) ?_
      refine z_iload_n C hl 2 rfl dX8_evenest_17 ?_
      refine z_sSi C hP (As := [.int (iI eb)]) lk_X8_149 (c_X8_isEffort hI σ eb r2) rfl hl.1 rfl (Nat.le_of_ble_eq_true rfl) ⟨Nat.le_of_ble_eq_true rfl, Nat.le_of_ble_eq_true rfl⟩ ⟨Nat.zero_le _, Nat.zero_le _⟩ dX8_evenest_18 ?_
      by_cases b_18 : 0 ≤ eb ∧ eb ≤ 4
      · rw [show (if 0 ≤ eb ∧ eb ≤ 4 then (1 : Int) else 0) = 1 from if_pos b_18]
        refine z_ifT_ne C 27 dX8_evenest_21 (by decide) ⟨by decide, by decide⟩ (by decide) ?_
        refine z_iconst C dX8_evenest_27 ?_
        refine z_istore_n C [1, 2, 3, 0] [(0, .ref (a 100)), (1, .int (iI ef)), (2, .int (iI eb)), (3, .int (iI 0))] hl (by decide) rfl dX8_evenest_28 (fun ls hl => ?_)
        refine z_iconst C dX8_evenest_29 ?_
        refine z_istore C [1, 2, 3, 4, 0] [(0, .ref (a 100)), (1, .int (iI ef)), (2, .int (iI eb)), (3, .int (iI 0)), (4, .int (iI 1))] hl (by decide) rfl dX8_evenest_30 (fun ls hl => ?_)
        have L_32 : ∀ (n : Nat) (bt : Int) (p0 : Int) (ls : Array Slot), (1 ≤ p0 ∧ p0 ≤ 12) → (bt = mArg 0 (jUn σ ef eb) (p0 - 1 - 0).toNat) → (0 ≤ bt ∧ bt ≤ 11) → ((12 - p0).toNat) < n → lv_has ls 5 [(0, .ref (a 100)), (1, .int (iI ef)), (2, .int (iI eb)), (3, .int (iI bt)), (4, .int (iI p0))] → W p l e (zR 4) s m ([.ref (a 100), .int (iI ef), .int (iI eb)] : List Value).toArray below meth c s.heap [] 0 0 (MQ below (zSi (if mBit (σ 100 0) (σ 100 5) = 1 ∧ mBit (σ 100 0) (σ 100 6) = 1 ∧ σ 100 5 ≠ σ 100 6 then (if (0 ≤ ef ∧ ef ≤ 4) ∧ (0 ≤ eb ∧ eb ≤ 4) then mArg 0 (jUn σ ef eb) 11 else -2) else -3)) ([.ref (a 100), .int (iI ef), .int (iI eb)] : List Value).toArray s 0 0 zNo) (F0 m 32 ls []) := by
          intro n
          induction n with
          | zero =>
            intros; omega
          | succ n ih_32 =>
            intro bt p0 ls ip iv it hm hl
            refine z_iload C hl 4 rfl dX8_evenest_32 ?_
            refine z_bipush C (by decide +kernel) dX8_evenest_34 ?_
            refine z_icmp_ge C 70 dX8_evenest_36 (by decide) ⟨by omega, by omega⟩ ⟨by omega, by omega⟩ (fun c_36 => ?_) (fun c_36 => ?_)
            · refine z_iload_n C hl 3 rfl dX8_evenest_70 ?_
              exact z_retSi C hr hlocks rfl (by first | (rw [if_neg b_1]; done) | (rw [if_pos (Classical.byContradiction b_1), if_neg (by omega)]; done) | (rw [if_pos (Classical.byContradiction b_1), if_pos (by omega), iv, show p0 = 12 from (by omega)]; rfl)) dX8_evenest_71
            · refine z_aload_n C hl 0 rfl dX8_evenest_39 ?_
              refine z_iload_n C hl 1 rfl dX8_evenest_40 ?_
              refine z_iload_n C hl 2 rfl dX8_evenest_41 ?_
              refine z_iload C hl 4 rfl dX8_evenest_42 ?_
              refine z_vSi C hP (As := [.int (iI ef), .int (iI eb), .int (iI p0)]) lk_X8_272 (c_X8_unevenBy hI σ ef eb p0 hse hrd ⟨by omega, by omega⟩ ⟨by omega, by omega⟩ ⟨by omega, by omega⟩) ob_100 rfl rfl rfl hl.1 rfl (Nat.le_of_ble_eq_true rfl) ⟨Nat.le_of_ble_eq_true rfl, Nat.le_of_ble_eq_true rfl⟩ ⟨Nat.zero_le _, Nat.zero_le _⟩ dX8_evenest_44 ?_
              have hu1 := jUn_b hse hrd (ef := ef) (eb := eb) (p0 := p0) (by omega) (by omega) (by omega)
              refine z_aload_n C hl 0 rfl dX8_evenest_47 ?_
              refine z_iload_n C hl 1 rfl dX8_evenest_48 ?_
              refine z_iload_n C hl 2 rfl dX8_evenest_49 ?_
              refine z_iload_n C hl 3 rfl dX8_evenest_50 ?_
              refine z_vSi C hP (As := [.int (iI ef), .int (iI eb), .int (iI bt)]) lk_X8_272 (c_X8_unevenBy hI σ ef eb bt hse hrd ⟨by omega, by omega⟩ ⟨by omega, by omega⟩ ⟨by omega, by omega⟩) ob_100 rfl rfl rfl hl.1 rfl (Nat.le_of_ble_eq_true rfl) ⟨Nat.le_of_ble_eq_true rfl, Nat.le_of_ble_eq_true rfl⟩ ⟨Nat.zero_le _, Nat.zero_le _⟩ dX8_evenest_51 ?_
              have hu2 := jUn_b hse hrd (ef := ef) (eb := eb) (p0 := bt) (by omega) (by omega) (by omega)
              refine z_icmp_ge C 62 dX8_evenest_54 (by decide) ⟨by omega, by omega⟩ ⟨by omega, by omega⟩ (fun c_54 => ?_) (fun c_54 => ?_)
              · refine z_iload_n C hl 3 rfl dX8_evenest_62 ?_
                refine z_istore_n C [1, 2, 3, 0, 4] [(0, .ref (a 100)), (1, .int (iI ef)), (2, .int (iI eb)), (3, .int (iI bt)), (4, .int (iI p0))] hl (by decide) rfl dX8_evenest_63 (fun ls hl => ?_)
                refine z_iinc C 4 [1, 2, 3, 4, 0] [(0, .ref (a 100)), (1, .int (iI ef)), (2, .int (iI eb)), (3, .int (iI bt)), (4, .int (iI (p0 + 1)))] hl rfl (by decide) rfl dX8_evenest_64 (fun ls hl => ?_)
                refine z_goto C 32 dX8_evenest_67 (by decide) ?_
                exact ih_32 bt (p0 + 1) ls (by omega) (by have hst := mArg_s 0 (jUn σ ef eb) (b := p0 - 1) (by omega); rw [show p0 - 1 + 1 = p0 from (by omega)] at hst; rw [show p0 + 1 - 1 - 0 = p0 - 0 from (by omega), hst, ← iv]; first | (rw [if_pos (by omega)]; done) | (rw [if_neg (by omega)]; done)) (by omega) (by omega) (lv_sub hl [0, 1, 2, 3, 4] rfl)
              · refine z_iload C hl 4 rfl dX8_evenest_57 ?_
                refine z_goto C 63 dX8_evenest_59 (by decide) ?_
                refine z_istore_n C [1, 2, 3, 0, 4] [(0, .ref (a 100)), (1, .int (iI ef)), (2, .int (iI eb)), (3, .int (iI p0)), (4, .int (iI p0))] hl (by decide) rfl dX8_evenest_63 (fun ls hl => ?_)
                refine z_iinc C 4 [1, 2, 3, 4, 0] [(0, .ref (a 100)), (1, .int (iI ef)), (2, .int (iI eb)), (3, .int (iI p0)), (4, .int (iI (p0 + 1)))] hl rfl (by decide) rfl dX8_evenest_64 (fun ls hl => ?_)
                refine z_goto C 32 dX8_evenest_67 (by decide) ?_
                exact ih_32 p0 (p0 + 1) ls (by omega) (by have hst := mArg_s 0 (jUn σ ef eb) (b := p0 - 1) (by omega); rw [show p0 - 1 + 1 = p0 from (by omega)] at hst; rw [show p0 + 1 - 1 - 0 = p0 - 0 from (by omega), hst, ← iv]; first | (rw [if_pos (by omega)]; done) | (rw [if_neg (by omega)]; done)) (by omega) (by omega) (lv_sub hl [0, 1, 2, 3, 4] rfl)
        exact L_32 _ 0 1 ls (by omega) (by rfl) (by omega) (Nat.lt_succ_self _) (lv_sub hl [0, 1, 2, 3, 4] rfl)
      · rw [show (if 0 ≤ eb ∧ eb ≤ 4 then (1 : Int) else 0) = 0 from if_neg b_18]
        refine z_ifF_ne C 27 dX8_evenest_21 (by decide) ⟨by decide, by decide⟩ (by decide) ?_
        refine z_bipush C (by decide +kernel) dX8_evenest_24 ?_
        exact z_retSi C hr hlocks rfl (by first | (rw [if_neg b_1]; done) | (rw [if_pos (Classical.byContradiction b_1), if_neg (by omega)]; done) | (rw [if_pos (Classical.byContradiction b_1), if_pos (by omega), iv, show p0 = 12 from (by omega)]; rfl)) dX8_evenest_26
    · rw [show (if 0 ≤ ef ∧ ef ≤ 4 then (1 : Int) else 0) = 0 from if_neg b_11]
      refine z_ifT_eq C 24 dX8_evenest_14 (by decide) ⟨by decide, by decide⟩ (by decide) ?_
      refine z_bipush C (by decide +kernel) dX8_evenest_24 ?_
      exact z_retSi C hr hlocks rfl (by first | (rw [if_neg b_1]; done) | (rw [if_pos (Classical.byContradiction b_1), if_neg (by omega)]; done) | (rw [if_pos (Classical.byContradiction b_1), if_pos (by omega), iv, show p0 = 12 from (by omega)]; rfl)) dX8_evenest_26

def jBp (σ : zS) (i : Int) : Int := if σ 105 i = 99 ∨ σ 105 i = 126 then 1 else 0
theorem jBp_b (σ : zS) (i : Int) : jBp σ i = 0 ∨ jBp σ i = 1 := by
  unfold jBp
  split
  · exact Or.inr rfl
  · exact Or.inl rfl
theorem jBp_n (σ : zS) (n : Nat) : 0 ≤ mSum (jBp σ) n ∧ mSum (jBp σ) n ≤ n := by
  have h := mSum_b (f := jBp σ) (A := 1) (n := n) (fun i _ _ => by have := jBp_b σ i; omega)
  omega
set_option maxRecDepth 20000 in
set_option maxHeartbeats 4000000 in
theorem c_X8_bumps {l : Launch} {D : va_G} {Y : Nat → ClassId} {a : Int → Nat} (hI : zI a) (σ : zS)  (hnm : 1 ≤ σ 100 11 ∧ σ 100 11 ≤ 24) (hch : ∀ i : Int, 0 ≤ i → i < 24 → 0 ≤ σ 105 i ∧ σ 105 i ≤ 200) : zMet l yX8_bumps cX8_bumps 3 (some .int) 0 (zPc D Y a σ [.ref (a 100)]) (zSi (mSum (jBp σ) (σ 100 11).toNat)) zNo := by
  refine z_start rfl (Nat.le_of_ble_eq_true rfl) hI ?_
  intro p e s m below meth c ls C hr hlocks hl hP
  have hl : lv_has ls 3 [(0, .ref (a 100))] := hl
  refine z_iconst C dX8_bumps_0 ?_
  refine z_istore_n C [1, 0] [(0, .ref (a 100)), (1, .int (iI 0))] hl (by decide) rfl dX8_bumps_1 (fun ls hl => ?_)
  refine z_iconst C dX8_bumps_2 ?_
  refine z_istore_n C [1, 2, 0] [(0, .ref (a 100)), (1, .int (iI 0)), (2, .int (iI 0))] hl (by decide) rfl dX8_bumps_3 (fun ls hl => ?_)
  have L_4 : ∀ (n : Nat) (ct : Int) (i : Int) (ls : Array Slot), (0 ≤ i ∧ i ≤ σ 100 11) → (ct = mSum (jBp σ) i.toNat) → (0 ≤ ct ∧ ct ≤ i) → ((σ 100 11 - i).toNat) < n → lv_has ls 3 [(0, .ref (a 100)), (1, .int (iI ct)), (2, .int (iI i))] → W p l e (zR 0) s m ([.ref (a 100)] : List Value).toArray below meth c s.heap [] 0 0 (MQ below (zSi (mSum (jBp σ) (σ 100 11).toNat)) ([.ref (a 100)] : List Value).toArray s 0 0 zNo) (F0 m 4 ls []) := by
    intro n
    induction n with
    | zero =>
      intros; omega
    | succ n ih_4 =>
      intro ct i ls ii iv ib hm hl
      refine z_iload_n C hl 2 rfl dX8_bumps_4 ?_
      refine z_aload_n C hl 0 rfl dX8_bumps_5 ?_
      refine zg_X8_81 C hP dX8_bumps_6 ?_
      refine z_icmp_ge C 48 dX8_bumps_9 (by decide) ⟨by omega, by omega⟩ ⟨by omega, by omega⟩ (fun c_9 => ?_) (fun c_9 => ?_)
      · refine z_iload_n C hl 1 rfl dX8_bumps_48 ?_
        exact z_retSi C hr hlocks rfl (by rw [iv, show i = σ 100 11 from (by omega)]) dX8_bumps_49
      · have hci := hch i (by omega) (by omega)
        refine z_iload_n C hl 1 rfl dX8_bumps_12 ?_
        refine z_aload_n C hl 0 rfl dX8_bumps_13 ?_
        refine zg_X8_22 C hP dX8_bumps_14 ?_
        refine z_iload_n C hl 2 rfl dX8_bumps_17 ?_
        refine z_iald C hP ia_105 ⟨by omega, by omega⟩ dX8_bumps_18 ?_
        refine z_bipush C (by decide +kernel) dX8_bumps_19 ?_
        refine z_icmp_eq C 35 dX8_bumps_21 (by decide) ⟨by omega, by omega⟩ ⟨by omega, by omega⟩ (fun c_21 => ?_) (fun c_21 => ?_)
        · refine z_iconst C dX8_bumps_35 ?_
          refine z_goto C 40 dX8_bumps_36 (by decide) ?_
          refine z_iadd C dX8_bumps_40 ?_
          refine z_topi (fun x1 hx1 => ?_)
          refine z_istore_n C [1, 0, 2] [(0, .ref (a 100)), (1, .int (iI x1)), (2, .int (iI i))] hl (by decide) rfl dX8_bumps_41 (fun ls hl => ?_)
          refine z_iinc C 2 [1, 2, 0] [(0, .ref (a 100)), (1, .int (iI x1)), (2, .int (iI (i + 1)))] hl rfl (by decide) rfl dX8_bumps_42 (fun ls hl => ?_)
          refine z_goto C 4 dX8_bumps_45 (by decide) ?_
          exact ih_4 x1 (i + 1) ls (by omega) (by rw [mSum_s _ ii.1, ← iv]; unfold jBp; first | (rw [if_pos (by omega)]; first | done | omega) | (rw [if_neg (by omega)]; first | done | omega)) (by omega) (by omega) (lv_sub hl [0, 1, 2] rfl)
        · refine z_aload_n C hl 0 rfl dX8_bumps_24 ?_
          refine zg_X8_22 C hP dX8_bumps_25 ?_
          refine z_iload_n C hl 2 rfl dX8_bumps_28 ?_
          refine z_iald C hP ia_105 ⟨by omega, by omega⟩ dX8_bumps_29 ?_
          refine z_bipush C (by decide +kernel) dX8_bumps_30 ?_
          refine z_icmp_ne C 39 dX8_bumps_32 (by decide) ⟨by omega, by omega⟩ ⟨by omega, by omega⟩ (fun c_32 => ?_) (fun c_32 => ?_)
          · refine z_iconst C dX8_bumps_39 ?_
            refine z_iadd C dX8_bumps_40 ?_
            refine z_topi (fun x2 hx2 => ?_)
            refine z_istore_n C [1, 0, 2] [(0, .ref (a 100)), (1, .int (iI x2)), (2, .int (iI i))] hl (by decide) rfl dX8_bumps_41 (fun ls hl => ?_)
            refine z_iinc C 2 [1, 2, 0] [(0, .ref (a 100)), (1, .int (iI x2)), (2, .int (iI (i + 1)))] hl rfl (by decide) rfl dX8_bumps_42 (fun ls hl => ?_)
            refine z_goto C 4 dX8_bumps_45 (by decide) ?_
            exact ih_4 x2 (i + 1) ls (by omega) (by rw [mSum_s _ ii.1, ← iv]; unfold jBp; first | (rw [if_pos (by omega)]; first | done | omega) | (rw [if_neg (by omega)]; first | done | omega)) (by omega) (by omega) (lv_sub hl [0, 1, 2] rfl)
          · refine z_iconst C dX8_bumps_35 ?_
            refine z_goto C 40 dX8_bumps_36 (by decide) ?_
            refine z_iadd C dX8_bumps_40 ?_
            refine z_topi (fun x3 hx3 => ?_)
            refine z_istore_n C [1, 0, 2] [(0, .ref (a 100)), (1, .int (iI x3)), (2, .int (iI i))] hl (by decide) rfl dX8_bumps_41 (fun ls hl => ?_)
            refine z_iinc C 2 [1, 2, 0] [(0, .ref (a 100)), (1, .int (iI x3)), (2, .int (iI (i + 1)))] hl rfl (by decide) rfl dX8_bumps_42 (fun ls hl => ?_)
            refine z_goto C 4 dX8_bumps_45 (by decide) ?_
            exact ih_4 x3 (i + 1) ls (by omega) (by rw [mSum_s _ ii.1, ← iv]; unfold jBp; first | (rw [if_pos (by omega)]; first | done | omega) | (rw [if_neg (by omega)]; first | done | omega)) (by omega) (by omega) (lv_sub hl [0, 1, 2] rfl)
  exact L_4 _ 0 0 ls (by omega) (by rfl) (by omega) (Nat.lt_succ_self _) (lv_sub hl [0, 1, 2] rfl)
