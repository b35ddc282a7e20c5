def mSgM (σ : zS) (q : Int) : Int := if 0 ≤ q ∧ q < σ 100 18 then σ 110 q else 0
set_option maxRecDepth 20000 in
set_option maxHeartbeats 4000000 in
theorem c_X8_faultOfPlan {l : Launch} {D : va_G} {Y : Nat → ClassId} {a : Int → Nat} (hI : zI a) (σ : zS)  (hnm : 1 ≤ σ 100 11 ∧ σ 100 11 ≤ 24) (hpm : 0 ≤ σ 100 18 ∧ σ 100 18 ≤ 110) (hpq : ∀ i : Int, 0 ≤ i → i < 110 → 0 ≤ σ 110 i ∧ σ 110 i ≤ 126) : zMet l yX8_faultOfPlan cX8_faultOfPlan 7 (some .int) 2 (zPc D Y a σ [.ref (a 100)]) (zQi D Y a (fun r τ => r = mRd (mSgM σ) (σ 100 11) (σ 100 18) (σ 100 11).toNat 0 ∧ (∀ k : Int, k < 111 ∨ 114 < k → τ k = σ k) ∧ (r = -6 → ∀ i : Int, 0 ≤ i → i < σ 100 11 → τ 111 i = mRst (mSgM σ) i ∧ τ 112 i = mEF (mSgM σ) i ∧ τ 113 i = mEB (mSgM σ) i ∧ τ 114 i = mBt (mSgM σ) i))) (inA a) := by
  refine z_start rfl (Nat.le_of_ble_eq_true rfl) hI ?_
  intro p e s m below meth c ls C hr hlocks hl hP
  have hS : va_S (inA a) s.heap s.heap [] := va_S.rf
  have hl : lv_has ls 7 [(0, .ref (a 100))] := hl
  skip
  refine z_iconst C dX8_faultOfPlan_0 ?_
  refine z_istore_n C [1, 0] [(0, .ref (a 100)), (1, .int (iI 0))] hl (by decide) rfl dX8_faultOfPlan_1 (fun ls hl => ?_)
  refine z_iconst C dX8_faultOfPlan_2 ?_
  refine z_istore_n C [1, 2, 0] [(0, .ref (a 100)), (1, .int (iI 0)), (2, .int (iI 0))] hl (by decide) rfl dX8_faultOfPlan_3 (fun ls hl => ?_)
  refine z_iconst C dX8_faultOfPlan_4 ?_
  refine z_istore_n C [1, 2, 3, 0] [(0, .ref (a 100)), (1, .int (iI 0)), (2, .int (iI 0)), (3, .int (iI 0))] hl (by decide) rfl dX8_faultOfPlan_5 (fun ls hl => ?_)
  have L_6 : ∀ (n : Nat) (k : Int) (due : Int) (i : Int) (τ : zS) (H : Heap) (locs : List Loc) (hP : GP D Y a τ H) (hS : va_S (inA a) s.heap H locs) (ls : Array Slot), (0 ≤ k ∧ k ≤ σ 100 11) → (0 ≤ i ∧ i ≤ σ 100 18) → ((due = 0 ∧ i = mPl (mSgM σ) k.toNat) ∨ (due = 1 ∧ i = mPl (mSgM σ) k.toNat + 1 ∧ mRst (mSgM σ) k = 1 ∧ k < σ 100 11) ∨ (due = 2 ∧ i = mQ (mSgM σ) k + 1 ∧ k < σ 100 11 ∧ 0 ≤ mEF (mSgM σ) k ∧ mEF (mSgM σ) k ≤ 4) ∨ (due = 3 ∧ i = mQ (mSgM σ) k + 2 ∧ k < σ 100 11 ∧ 0 ≤ mEF (mSgM σ) k ∧ mEF (mSgM σ) k ≤ 4 ∧ 0 ≤ mEB (mSgM σ) k ∧ mEB (mSgM σ) k ≤ 4)) → ((1 ≤ due → τ 111 k = mRst (mSgM σ) k) ∧ (2 ≤ due → τ 112 k = mEF (mSgM σ) k) ∧ (3 ≤ due → τ 113 k = mEB (mSgM σ) k)) → (∀ j : Int, 0 ≤ j → j < k → τ 111 j = mRst (mSgM σ) j ∧ τ 112 j = mEF (mSgM σ) j ∧ τ 113 j = mEB (mSgM σ) j ∧ τ 114 j = mBt (mSgM σ) j) → (∀ k : Int, k < 111 ∨ 114 < k → τ k = σ k) → (mRd (mSgM σ) (σ 100 11) (σ 100 18) (σ 100 11).toNat 0 = mRd (mSgM σ) (σ 100 11) (σ 100 18) (σ 100 11 - k).toNat k) → ((σ 100 18 - i).toNat) < n → lv_has ls 7 [(0, .ref (a 100)), (1, .int (iI k)), (2, .int (iI due)), (3, .int (iI i))] → W p l e (zR 2) s m ([.ref (a 100)] : List Value).toArray below meth c H locs 0 0 (MQ below (zQi D Y a (fun r τ => r = mRd (mSgM σ) (σ 100 11) (σ 100 18) (σ 100 11).toNat 0 ∧ (∀ k : Int, k < 111 ∨ 114 < k → τ k = σ k) ∧ (r = -6 → ∀ i : Int, 0 ≤ i → i < σ 100 11 → τ 111 i = mRst (mSgM σ) i ∧ τ 112 i = mEF (mSgM σ) i ∧ τ 113 i = mEB (mSgM σ) i ∧ τ 114 i = mBt (mSgM σ) i))) ([.ref (a 100)] : List Value).toArray s 0 0 (inA a)) (F0 m 6 ls []) := by
    intro n
    induction n with
    | zero =>
      intros; omega
    | succ n ih_6 =>
      intro k due i τ H locs hP hS ls ik ii ip iq iD iF iv hm hl
      have hrs := mRst_or (mSgM σ) k
      have hQ : mQ (mSgM σ) k = mPl (mSgM σ) k.toNat + mRst (mSgM σ) k := rfl
      have hps := mPl_s (mSgM σ) ik.1
      refine z_iload_n C hl 3 rfl dX8_faultOfPlan_6 ?_
      refine z_aload_n C hl 0 rfl dX8_faultOfPlan_7 ?_
      refine zg_X8_124 C hP dX8_faultOfPlan_8 ?_
      rw [show τ 100 18 = σ 100 18 from by rw [iF 100 (by omega)]]
      refine z_icmp_ge C 230 dX8_faultOfPlan_11 (by decide) ⟨by omega, by omega⟩ ⟨by omega, by omega⟩ (fun c_11 => ?_) (fun c_11 => ?_)
      · rcases (by omega : due = 0 ∨ due = 1 ∨ due = 2 ∨ due = 3) with rfl | rfl | rfl | rfl
        · have ip0 : i = mPl (mSgM σ) k.toNat := by omega
          clear ip iq
          rw [← ip0] at hrs
          have e1 : mRst (mSgM σ) k = 0 → mEF (mSgM σ) k = mSgM σ i - 48 := fun h => by unfold mEF; rw [show mQ (mSgM σ) k = i from by omega]
          have gi : mSgM σ i = 0 := if_neg (by omega)
          refine z_iload_n C hl 1 rfl dX8_faultOfPlan_230 ?_
          refine z_aload_n C hl 0 rfl dX8_faultOfPlan_231 ?_
          refine zg_X8_81 C hP dX8_faultOfPlan_232 ?_
          rw [show τ 100 11 = σ 100 11 from by rw [iF 100 (by omega)]]
          refine z_icmp_ge C 245 dX8_faultOfPlan_235 (by decide) ⟨by omega, by omega⟩ ⟨by omega, by omega⟩ (fun c_235 => ?_) (fun c_235 => ?_)
          · refine z_bipush C (by decide +kernel) dX8_faultOfPlan_245 ?_
            exact z_retQi C hP hS hr hlocks rfl (by exact ⟨(by first | (rw [iv, mRd_s _ _ _ (by omega)]; first | (rw [if_neg (by omega)]; omega) | (rw [if_pos (by omega), if_neg (by omega)]; omega) | (rw [if_pos (by omega), if_pos (by omega), if_neg (by omega)]; omega)) | (rw [iv, show (σ 100 11 - k).toNat = 0 from (by omega)]; unfold mRd; rw [show σ 100 11 = k from (by omega)]; first | (rw [if_pos (by omega)]; omega) | (rw [if_neg (by omega)]))), (fun k hk => (by rw [iF k (by omega)])), fun h => (by first | (exfalso; omega) | (rw [show σ 100 11 = k from (by omega)]; exact iD))⟩) dX8_faultOfPlan_247
          · refine z_aload_n C hl 0 rfl dX8_faultOfPlan_238 ?_
            refine zg_X8_124 C hP dX8_faultOfPlan_239 ?_
            rw [show τ 100 18 = σ 100 18 from by rw [iF 100 (by omega)]]
            refine z_goto C 247 dX8_faultOfPlan_242 (by decide) ?_
            exact z_retQi C hP hS hr hlocks rfl (by exact ⟨(by first | (rw [iv, mRd_s _ _ _ (by omega)]; first | (rw [if_neg (by omega)]; omega) | (rw [if_pos (by omega), if_neg (by omega)]; omega) | (rw [if_pos (by omega), if_pos (by omega), if_neg (by omega)]; omega)) | (rw [iv, show (σ 100 11 - k).toNat = 0 from (by omega)]; unfold mRd; rw [show σ 100 11 = k from (by omega)]; first | (rw [if_pos (by omega)]; omega) | (rw [if_neg (by omega)]))), (fun k hk => (by rw [iF k (by omega)])), fun h => (by first | (exfalso; omega) | (rw [show σ 100 11 = k from (by omega)]; exact iD))⟩) dX8_faultOfPlan_247
        · have ip0 : i = mPl (mSgM σ) k.toNat + 1 ∧ mRst (mSgM σ) k = 1 ∧ k < σ 100 11 := by omega
          have iq1 := iq.1 (by omega)
          clear ip iq hrs
          have e1 : mEF (mSgM σ) k = mSgM σ i - 48 := by unfold mEF; rw [show mQ (mSgM σ) k = i from by omega]
          have gi : mSgM σ i = 0 := if_neg (by omega)
          refine z_iload_n C hl 1 rfl dX8_faultOfPlan_230 ?_
          refine z_aload_n C hl 0 rfl dX8_faultOfPlan_231 ?_
          refine zg_X8_81 C hP dX8_faultOfPlan_232 ?_
          rw [show τ 100 11 = σ 100 11 from by rw [iF 100 (by omega)]]
          refine z_icmp_ge C 245 dX8_faultOfPlan_235 (by decide) ⟨by omega, by omega⟩ ⟨by omega, by omega⟩ (fun c_235 => ?_) (fun c_235 => ?_)
          · refine z_bipush C (by decide +kernel) dX8_faultOfPlan_245 ?_
            exact z_retQi C hP hS hr hlocks rfl (by exact ⟨(by first | (rw [iv, mRd_s _ _ _ (by omega)]; first | (rw [if_neg (by omega)]; omega) | (rw [if_pos (by omega), if_neg (by omega)]; omega) | (rw [if_pos (by omega), if_pos (by omega), if_neg (by omega)]; omega)) | (rw [iv, show (σ 100 11 - k).toNat = 0 from (by omega)]; unfold mRd; rw [show σ 100 11 = k from (by omega)]; first | (rw [if_pos (by omega)]; omega) | (rw [if_neg (by omega)]))), (fun k hk => (by rw [iF k (by omega)])), fun h => (by first | (exfalso; omega) | (rw [show σ 100 11 = k from (by omega)]; exact iD))⟩) dX8_faultOfPlan_247
          · refine z_aload_n C hl 0 rfl dX8_faultOfPlan_238 ?_
            refine zg_X8_124 C hP dX8_faultOfPlan_239 ?_
            rw [show τ 100 18 = σ 100 18 from by rw [iF 100 (by omega)]]
            refine z_goto C 247 dX8_faultOfPlan_242 (by decide) ?_
            exact z_retQi C hP hS hr hlocks rfl (by exact ⟨(by first | (rw [iv, mRd_s _ _ _ (by omega)]; first | (rw [if_neg (by omega)]; omega) | (rw [if_pos (by omega), if_neg (by omega)]; omega) | (rw [if_pos (by omega), if_pos (by omega), if_neg (by omega)]; omega)) | (rw [iv, show (σ 100 11 - k).toNat = 0 from (by omega)]; unfold mRd; rw [show σ 100 11 = k from (by omega)]; first | (rw [if_pos (by omega)]; omega) | (rw [if_neg (by omega)]))), (fun k hk => (by rw [iF k (by omega)])), fun h => (by first | (exfalso; omega) | (rw [show σ 100 11 = k from (by omega)]; exact iD))⟩) dX8_faultOfPlan_247
        · have ip0 : i = mQ (mSgM σ) k + 1 ∧ k < σ 100 11 ∧ 0 ≤ mEF (mSgM σ) k ∧ mEF (mSgM σ) k ≤ 4 := by omega
          have iq1 := iq.1 (by omega)
          have iq2 := iq.2.1 (by omega)
          clear ip iq hrs
          have e2 : mEB (mSgM σ) k = mSgM σ i - 48 := by unfold mEB; rw [show mQ (mSgM σ) k + 1 = i from by omega]
          have gi : mSgM σ i = 0 := if_neg (by omega)
          refine z_iload_n C hl 1 rfl dX8_faultOfPlan_230 ?_
          refine z_aload_n C hl 0 rfl dX8_faultOfPlan_231 ?_
          refine zg_X8_81 C hP dX8_faultOfPlan_232 ?_
          rw [show τ 100 11 = σ 100 11 from by rw [iF 100 (by omega)]]
          refine z_icmp_ge C 245 dX8_faultOfPlan_235 (by decide) ⟨by omega, by omega⟩ ⟨by omega, by omega⟩ (fun c_235 => ?_) (fun c_235 => ?_)
          · refine z_bipush C (by decide +kernel) dX8_faultOfPlan_245 ?_
            exact z_retQi C hP hS hr hlocks rfl (by exact ⟨(by first | (rw [iv, mRd_s _ _ _ (by omega)]; first | (rw [if_neg (by omega)]; omega) | (rw [if_pos (by omega), if_neg (by omega)]; omega) | (rw [if_pos (by omega), if_pos (by omega), if_neg (by omega)]; omega)) | (rw [iv, show (σ 100 11 - k).toNat = 0 from (by omega)]; unfold mRd; rw [show σ 100 11 = k from (by omega)]; first | (rw [if_pos (by omega)]; omega) | (rw [if_neg (by omega)]))), (fun k hk => (by rw [iF k (by omega)])), fun h => (by first | (exfalso; omega) | (rw [show σ 100 11 = k from (by omega)]; exact iD))⟩) dX8_faultOfPlan_247
          · refine z_aload_n C hl 0 rfl dX8_faultOfPlan_238 ?_
            refine zg_X8_124 C hP dX8_faultOfPlan_239 ?_
            rw [show τ 100 18 = σ 100 18 from by rw [iF 100 (by omega)]]
            refine z_goto C 247 dX8_faultOfPlan_242 (by decide) ?_
            exact z_retQi C hP hS hr hlocks rfl (by exact ⟨(by first | (rw [iv, mRd_s _ _ _ (by omega)]; first | (rw [if_neg (by omega)]; omega) | (rw [if_pos (by omega), if_neg (by omega)]; omega) | (rw [if_pos (by omega), if_pos (by omega), if_neg (by omega)]; omega)) | (rw [iv, show (σ 100 11 - k).toNat = 0 from (by omega)]; unfold mRd; rw [show σ 100 11 = k from (by omega)]; first | (rw [if_pos (by omega)]; omega) | (rw [if_neg (by omega)]))), (fun k hk => (by rw [iF k (by omega)])), fun h => (by first | (exfalso; omega) | (rw [show σ 100 11 = k from (by omega)]; exact iD))⟩) dX8_faultOfPlan_247
        · have ip0 : i = mQ (mSgM σ) k + 2 ∧ k < σ 100 11 ∧ (0 ≤ mEF (mSgM σ) k ∧ mEF (mSgM σ) k ≤ 4) ∧ 0 ≤ mEB (mSgM σ) k ∧ mEB (mSgM σ) k ≤ 4 := by omega
          have iq1 := iq.1 (by omega)
          have iq2 := iq.2.1 (by omega)
          have iq3 := iq.2.2 (by omega)
          clear ip iq hrs
          have e3 : mBt (mSgM σ) k = mSgM σ i - 93 := by unfold mBt; rw [show mQ (mSgM σ) k + 2 = i from by omega]
          have gi : mSgM σ i = 0 := if_neg (by omega)
          refine z_iload_n C hl 1 rfl dX8_faultOfPlan_230 ?_
          refine z_aload_n C hl 0 rfl dX8_faultOfPlan_231 ?_
          refine zg_X8_81 C hP dX8_faultOfPlan_232 ?_
          rw [show τ 100 11 = σ 100 11 from by rw [iF 100 (by omega)]]
          refine z_icmp_ge C 245 dX8_faultOfPlan_235 (by decide) ⟨by omega, by omega⟩ ⟨by omega, by omega⟩ (fun c_235 => ?_) (fun c_235 => ?_)
          · refine z_bipush C (by decide +kernel) dX8_faultOfPlan_245 ?_
            exact z_retQi C hP hS hr hlocks rfl (by exact ⟨(by first | (rw [iv, mRd_s _ _ _ (by omega)]; first | (rw [if_neg (by omega)]; omega) | (rw [if_pos (by omega), if_neg (by omega)]; omega) | (rw [if_pos (by omega), if_pos (by omega), if_neg (by omega)]; omega)) | (rw [iv, show (σ 100 11 - k).toNat = 0 from (by omega)]; unfold mRd; rw [show σ 100 11 = k from (by omega)]; first | (rw [if_pos (by omega)]; omega) | (rw [if_neg (by omega)]))), (fun k hk => (by rw [iF k (by omega)])), fun h => (by first | (exfalso; omega) | (rw [show σ 100 11 = k from (by omega)]; exact iD))⟩) dX8_faultOfPlan_247
          · refine z_aload_n C hl 0 rfl dX8_faultOfPlan_238 ?_
            refine zg_X8_124 C hP dX8_faultOfPlan_239 ?_
            rw [show τ 100 18 = σ 100 18 from by rw [iF 100 (by omega)]]
            refine z_goto C 247 dX8_faultOfPlan_242 (by decide) ?_
            exact z_retQi C hP hS hr hlocks rfl (by exact ⟨(by first | (rw [iv, mRd_s _ _ _ (by omega)]; first | (rw [if_neg (by omega)]; omega) | (rw [if_pos (by omega), if_neg (by omega)]; omega) | (rw [if_pos (by omega), if_pos (by omega), if_neg (by omega)]; omega)) | (rw [iv, show (σ 100 11 - k).toNat = 0 from (by omega)]; unfold mRd; rw [show σ 100 11 = k from (by omega)]; first | (rw [if_pos (by omega)]; omega) | (rw [if_neg (by omega)]))), (fun k hk => (by rw [iF k (by omega)])), fun h => (by first | (exfalso; omega) | (rw [show σ 100 11 = k from (by omega)]; exact iD))⟩) dX8_faultOfPlan_247
      · rcases (by omega : due = 0 ∨ due = 1 ∨ due = 2 ∨ due = 3) with rfl | rfl | rfl | rfl
        · have ip0 : i = mPl (mSgM σ) k.toNat := by omega
          clear ip iq
          rw [← ip0] at hrs
          have e1 : mRst (mSgM σ) k = 0 → mEF (mSgM σ) k = mSgM σ i - 48 := fun h => by unfold mEF; rw [show mQ (mSgM σ) k = i from by omega]
          have gi : mSgM σ i = σ 110 i := if_pos ⟨ii.1, by omega⟩
          refine z_aload_n C hl 0 rfl dX8_faultOfPlan_14 ?_
          refine zg_X8_37 C hP dX8_faultOfPlan_15 ?_
          refine z_iload_n C hl 3 rfl dX8_faultOfPlan_18 ?_
          refine z_iald C hP ia_110 ⟨by omega, by omega⟩ dX8_faultOfPlan_19 ?_
          rw [show τ 110 i = σ 110 i from by rw [iF 110 (by omega)]]
          have hqi := hpq i (by omega) (by omega)
          refine z_topi (fun x1 hx1 => ?_)
          refine z_istore C [1, 2, 3, 4, 0] [(0, .ref (a 100)), (1, .int (iI k)), (2, .int (iI 0)), (3, .int (iI i)), (4, .int (iI x1))] hl (by decide) rfl dX8_faultOfPlan_20 (fun ls hl => ?_)
          refine z_iload C hl 4 rfl dX8_faultOfPlan_22 ?_
          refine z_i2l C ⟨by omega, by omega⟩ dX8_faultOfPlan_24 ?_
          refine z_ldc2 C (z := 48) wd_280 (by decide +kernel) dX8_faultOfPlan_25 ?_
          refine z_ldc2 C (z := 52) wd_281 (by decide +kernel) dX8_faultOfPlan_28 ?_
          refine z_sSi C hP (As := [.long (jI x1), .long (jI 48), .long (jI 52)]) lk_X8_86 (c_X8_in hI τ x1 48 52 ⟨by omega, by omega⟩ ⟨by decide, by decide⟩ ⟨by decide, by decide⟩) rfl hl.1 rfl (Nat.le_of_ble_eq_true rfl) ⟨Nat.le_of_ble_eq_true rfl, Nat.le_of_ble_eq_true rfl⟩ ⟨Nat.zero_le _, Nat.zero_le _⟩ dX8_faultOfPlan_31 ?_
          by_cases b_31 : 48 ≤ x1 ∧ x1 ≤ 52
          · rw [show (if 48 ≤ x1 ∧ x1 ≤ 52 then (1 : Int) else 0) = 1 from if_pos b_31]
            refine z_istore C [1, 2, 3, 4, 5, 0] [(0, .ref (a 100)), (1, .int (iI k)), (2, .int (iI 0)), (3, .int (iI i)), (4, .int (iI x1)), (5, .int (iI 1))] hl (by decide) rfl dX8_faultOfPlan_34 (fun ls hl => ?_)
            refine z_iload_n C hl 1 rfl dX8_faultOfPlan_36 ?_
            refine z_aload_n C hl 0 rfl dX8_faultOfPlan_37 ?_
            refine zg_X8_81 C hP dX8_faultOfPlan_38 ?_
            rw [show τ 100 11 = σ 100 11 from by rw [iF 100 (by omega)]]
            refine z_icmp_ge C 95 dX8_faultOfPlan_41 (by decide) ⟨by omega, by omega⟩ ⟨by omega, by omega⟩ (fun c_41 => ?_) (fun c_41 => ?_)
            · refine z_iconst C dX8_faultOfPlan_95 ?_
              refine z_istore C [1, 2, 3, 4, 5, 6, 0] [(0, .ref (a 100)), (1, .int (iI k)), (2, .int (iI 0)), (3, .int (iI i)), (4, .int (iI x1)), (5, .int (iI 1)), (6, .int (iI 0))] hl (by decide) rfl dX8_faultOfPlan_96 (fun ls hl => ?_)
              refine z_iload C hl 6 rfl dX8_faultOfPlan_98 ?_
              refine z_ifF_ne C 105 dX8_faultOfPlan_100 (by decide) ⟨by decide, by decide⟩ (by decide) ?_
              refine z_iload_n C hl 3 rfl dX8_faultOfPlan_103 ?_
              exact z_retQi C hP hS hr hlocks rfl (by exact ⟨(by first | (rw [iv, mRd_s _ _ _ (by omega)]; first | (rw [if_neg (by omega)]; omega) | (rw [if_pos (by omega), if_neg (by omega)]; omega) | (rw [if_pos (by omega), if_pos (by omega), if_neg (by omega)]; omega)) | (rw [iv, show (σ 100 11 - k).toNat = 0 from (by omega)]; unfold mRd; rw [show σ 100 11 = k from (by omega)]; first | (rw [if_pos (by omega)]; omega) | (rw [if_neg (by omega)]))), (fun k hk => (by rw [iF k (by omega)])), fun h => (by exfalso; omega)⟩) dX8_faultOfPlan_104
            · refine z_iload_n C hl 2 rfl dX8_faultOfPlan_44 ?_
              refine z_ifF_ne C 63 dX8_faultOfPlan_45 (by decide) ⟨by decide, by decide⟩ (by decide) ?_
              refine z_iload C hl 4 rfl dX8_faultOfPlan_48 ?_
              refine z_bipush C (by decide +kernel) dX8_faultOfPlan_50 ?_
              refine z_icmp_eq C 91 dX8_faultOfPlan_52 (by decide) ⟨by omega, by omega⟩ ⟨by omega, by omega⟩ (fun c_52 => ?_) (fun c_52 => ?_)
              · refine z_iconst C dX8_faultOfPlan_91 ?_
                refine z_goto C 96 dX8_faultOfPlan_92 (by decide) ?_
                refine z_istore C [1, 2, 3, 4, 5, 6, 0] [(0, .ref (a 100)), (1, .int (iI k)), (2, .int (iI 0)), (3, .int (iI i)), (4, .int (iI x1)), (5, .int (iI 1)), (6, .int (iI 1))] hl (by decide) rfl dX8_faultOfPlan_96 (fun ls hl => ?_)
                refine z_iload C hl 6 rfl dX8_faultOfPlan_98 ?_
                refine z_ifT_ne C 105 dX8_faultOfPlan_100 (by decide) ⟨by decide, by decide⟩ (by decide) ?_
                refine z_iload_n C hl 2 rfl dX8_faultOfPlan_105 ?_
                refine z_ifF_ne C 127 dX8_faultOfPlan_106 (by decide) ⟨by decide, by decide⟩ (by decide) ?_
                refine z_aload_n C hl 0 rfl dX8_faultOfPlan_109 ?_
                refine zg_X8_40 C hP dX8_faultOfPlan_110 ?_
                refine z_iload_n C hl 1 rfl dX8_faultOfPlan_113 ?_
                refine z_iload C hl 4 rfl dX8_faultOfPlan_114 ?_
                refine z_bipush C (by decide +kernel) dX8_faultOfPlan_116 ?_
                refine z_icmp_ne C 125 dX8_faultOfPlan_118 (by decide) ⟨by omega, by omega⟩ ⟨by omega, by omega⟩ (fun c_118 => ?_) (fun c_118 => ?_)
                · exact absurd c_52 c_118
                · refine z_iconst C dX8_faultOfPlan_121 ?_
                  refine z_goto C 126 dX8_faultOfPlan_122 (by decide) ?_
                  refine z_iast C hP hS ia_111 ⟨by omega, by omega⟩ dX8_faultOfPlan_126 (fun H locs hP hS => ?_)
                  obtain ⟨t2, et2⟩ : ∃ z : zS, z = zU τ 111 k 1 := ⟨_, rfl⟩
                  rw [← et2] at hP
                  refine z_iload_n C hl 2 rfl dX8_faultOfPlan_127 ?_
                  refine z_iconst C dX8_faultOfPlan_128 ?_
                  refine z_icmpF_ge C 151 dX8_faultOfPlan_129 (by decide) ⟨by decide, by decide⟩ ⟨by decide, by decide⟩ (by decide) ?_
                  refine z_iload C hl 5 rfl dX8_faultOfPlan_132 ?_
                  refine z_ifF_eq C 151 dX8_faultOfPlan_134 (by decide) ⟨by decide, by decide⟩ (by decide) ?_
                  refine z_aload_n C hl 0 rfl dX8_faultOfPlan_137 ?_
                  refine zg_X8_43 C hP dX8_faultOfPlan_138 ?_
                  refine z_iload_n C hl 1 rfl dX8_faultOfPlan_141 ?_
                  refine z_iload C hl 4 rfl dX8_faultOfPlan_142 ?_
                  refine z_bipush C (by decide +kernel) dX8_faultOfPlan_144 ?_
                  refine z_isub C dX8_faultOfPlan_146 ?_
                  refine z_iast C hP hS ia_112 ⟨by omega, by omega⟩ dX8_faultOfPlan_147 (fun H locs hP hS => ?_)
                  obtain ⟨t3, et3⟩ : ∃ z : zS, z = zU t2 112 k (x1 - 48) := ⟨_, rfl⟩
                  rw [← et3] at hP
                  refine z_goto C 191 dX8_faultOfPlan_148 (by decide) ?_
                  refine z_iload_n C hl 2 rfl dX8_faultOfPlan_191 ?_
                  refine z_iconst C dX8_faultOfPlan_192 ?_
                  refine z_icmpT_ne C 200 dX8_faultOfPlan_193 (by decide) ⟨by decide, by decide⟩ ⟨by decide, by decide⟩ (by decide) ?_
                  refine z_iload_n C hl 2 rfl dX8_faultOfPlan_200 ?_
                  refine z_ifF_ne C 213 dX8_faultOfPlan_201 (by decide) ⟨by decide, by decide⟩ (by decide) ?_
                  refine z_iload C hl 5 rfl dX8_faultOfPlan_204 ?_
                  refine z_ifT_ne C 213 dX8_faultOfPlan_206 (by decide) ⟨by decide, by decide⟩ (by decide) ?_
                  refine z_iload_n C hl 2 rfl dX8_faultOfPlan_213 ?_
                  refine z_iconst C dX8_faultOfPlan_214 ?_
                  refine z_icmpF_ge C 222 dX8_faultOfPlan_215 (by decide) ⟨by decide, by decide⟩ ⟨by decide, by decide⟩ (by decide) ?_
                  refine z_iconst C dX8_faultOfPlan_218 ?_
                  refine z_goto C 223 dX8_faultOfPlan_219 (by decide) ?_
                  refine z_istore_n C [1, 2, 0, 3, 4, 5, 6] [(0, .ref (a 100)), (1, .int (iI k)), (2, .int (iI 2)), (3, .int (iI i)), (4, .int (iI x1)), (5, .int (iI 1)), (6, .int (iI 1))] hl (by decide) rfl dX8_faultOfPlan_223 (fun ls hl => ?_)
                  refine z_iinc C 3 [1, 2, 3, 0, 4, 5, 6] [(0, .ref (a 100)), (1, .int (iI k)), (2, .int (iI 2)), (3, .int (iI (i + 1))), (4, .int (iI x1)), (5, .int (iI 1)), (6, .int (iI 1))] hl rfl (by decide) rfl dX8_faultOfPlan_224 (fun ls hl => ?_)
                  refine z_goto C 6 dX8_faultOfPlan_227 (by decide) ?_
                  exact ih_6 k 2 (i + 1) t3 H locs hP hS ls (by omega) (by omega) (by omega) (by exact ⟨fun h => (by first | (exfalso; omega) | (simp [et3, et2, zU]; omega)), fun h => (by first | (exfalso; omega) | (simp [et3, et2, zU]; omega)), fun h => (by first | (exfalso; omega) | (simp [et3, et2, zU]; omega))⟩) (by intro j h1 h2; first | (have hd := iD j h1 (by omega); have hjk : j ≠ k := (by omega); simp [et3, et2, zU, hjk]; exact hd) | (exact if hj : j = k then (by subst hj; simp [et3, et2, zU]; omega) else (by have hd := iD j h1 (by omega); simp [et3, et2, zU, hj]; exact hd))) (by intro k hk; exact (by rw [et3, zU_cell (by omega), et2, zU_cell (by omega), iF k (by omega)])) (by first | exact iv | (rw [iv, mRd_s _ _ _ (by omega), if_pos (by omega), if_pos (by omega), if_pos (by omega)])) (by omega) (lv_sub hl [0, 1, 2, 3] rfl)
              · refine z_iload C hl 5 rfl dX8_faultOfPlan_55 ?_
                refine z_ifF_eq C 95 dX8_faultOfPlan_57 (by decide) ⟨by decide, by decide⟩ (by decide) ?_
                refine z_goto C 91 dX8_faultOfPlan_60 (by decide) ?_
                refine z_iconst C dX8_faultOfPlan_91 ?_
                refine z_goto C 96 dX8_faultOfPlan_92 (by decide) ?_
                refine z_istore C [1, 2, 3, 4, 5, 6, 0] [(0, .ref (a 100)), (1, .int (iI k)), (2, .int (iI 0)), (3, .int (iI i)), (4, .int (iI x1)), (5, .int (iI 1)), (6, .int (iI 1))] hl (by decide) rfl dX8_faultOfPlan_96 (fun ls hl => ?_)
                refine z_iload C hl 6 rfl dX8_faultOfPlan_98 ?_
                refine z_ifT_ne C 105 dX8_faultOfPlan_100 (by decide) ⟨by decide, by decide⟩ (by decide) ?_
                refine z_iload_n C hl 2 rfl dX8_faultOfPlan_105 ?_
                refine z_ifF_ne C 127 dX8_faultOfPlan_106 (by decide) ⟨by decide, by decide⟩ (by decide) ?_
                refine z_aload_n C hl 0 rfl dX8_faultOfPlan_109 ?_
                refine zg_X8_40 C hP dX8_faultOfPlan_110 ?_
                refine z_iload_n C hl 1 rfl dX8_faultOfPlan_113 ?_
                refine z_iload C hl 4 rfl dX8_faultOfPlan_114 ?_
                refine z_bipush C (by decide +kernel) dX8_faultOfPlan_116 ?_
                refine z_icmp_ne C 125 dX8_faultOfPlan_118 (by decide) ⟨by omega, by omega⟩ ⟨by omega, by omega⟩ (fun c_118 => ?_) (fun c_118 => ?_)
                · refine z_iconst C dX8_faultOfPlan_125 ?_
                  refine z_iast C hP hS ia_111 ⟨by omega, by omega⟩ dX8_faultOfPlan_126 (fun H locs hP hS => ?_)
                  obtain ⟨t4, et4⟩ : ∃ z : zS, z = zU τ 111 k 0 := ⟨_, rfl⟩
                  rw [← et4] at hP
                  refine z_iload_n C hl 2 rfl dX8_faultOfPlan_127 ?_
                  refine z_iconst C dX8_faultOfPlan_128 ?_
                  refine z_icmpF_ge C 151 dX8_faultOfPlan_129 (by decide) ⟨by decide, by decide⟩ ⟨by decide, by decide⟩ (by decide) ?_
                  refine z_iload C hl 5 rfl dX8_faultOfPlan_132 ?_
                  refine z_ifF_eq C 151 dX8_faultOfPlan_134 (by decide) ⟨by decide, by decide⟩ (by decide) ?_
                  refine z_aload_n C hl 0 rfl dX8_faultOfPlan_137 ?_
                  refine zg_X8_43 C hP dX8_faultOfPlan_138 ?_
                  refine z_iload_n C hl 1 rfl dX8_faultOfPlan_141 ?_
                  refine z_iload C hl 4 rfl dX8_faultOfPlan_142 ?_
                  refine z_bipush C (by decide +kernel) dX8_faultOfPlan_144 ?_
                  refine z_isub C dX8_faultOfPlan_146 ?_
                  refine z_iast C hP hS ia_112 ⟨by omega, by omega⟩ dX8_faultOfPlan_147 (fun H locs hP hS => ?_)
                  obtain ⟨t5, et5⟩ : ∃ z : zS, z = zU t4 112 k (x1 - 48) := ⟨_, rfl⟩
                  rw [← et5] at hP
                  refine z_goto C 191 dX8_faultOfPlan_148 (by decide) ?_
                  refine z_iload_n C hl 2 rfl dX8_faultOfPlan_191 ?_
                  refine z_iconst C dX8_faultOfPlan_192 ?_
                  refine z_icmpT_ne C 200 dX8_faultOfPlan_193 (by decide) ⟨by decide, by decide⟩ ⟨by decide, by decide⟩ (by decide) ?_
                  refine z_iload_n C hl 2 rfl dX8_faultOfPlan_200 ?_
                  refine z_ifF_ne C 213 dX8_faultOfPlan_201 (by decide) ⟨by decide, by decide⟩ (by decide) ?_
                  refine z_iload C hl 5 rfl dX8_faultOfPlan_204 ?_
                  refine z_ifT_ne C 213 dX8_faultOfPlan_206 (by decide) ⟨by decide, by decide⟩ (by decide) ?_
                  refine z_iload_n C hl 2 rfl dX8_faultOfPlan_213 ?_
                  refine z_iconst C dX8_faultOfPlan_214 ?_
                  refine z_icmpF_ge C 222 dX8_faultOfPlan_215 (by decide) ⟨by decide, by decide⟩ ⟨by decide, by decide⟩ (by decide) ?_
                  refine z_iconst C dX8_faultOfPlan_218 ?_
                  refine z_goto C 223 dX8_faultOfPlan_219 (by decide) ?_
                  refine z_istore_n C [1, 2, 0, 3, 4, 5, 6] [(0, .ref (a 100)), (1, .int (iI k)), (2, .int (iI 2)), (3, .int (iI i)), (4, .int (iI x1)), (5, .int (iI 1)), (6, .int (iI 1))] hl (by decide) rfl dX8_faultOfPlan_223 (fun ls hl => ?_)
                  refine z_iinc C 3 [1, 2, 3, 0, 4, 5, 6] [(0, .ref (a 100)), (1, .int (iI k)), (2, .int (iI 2)), (3, .int (iI (i + 1))), (4, .int (iI x1)), (5, .int (iI 1)), (6, .int (iI 1))] hl rfl (by decide) rfl dX8_faultOfPlan_224 (fun ls hl => ?_)
                  refine z_goto C 6 dX8_faultOfPlan_227 (by decide) ?_
                  exact ih_6 k 2 (i + 1) t5 H locs hP hS ls (by omega) (by omega) (by omega) (by exact ⟨fun h => (by first | (exfalso; omega) | (simp [et5, et4, zU]; omega)), fun h => (by first | (exfalso; omega) | (simp [et5, et4, zU]; omega)), fun h => (by first | (exfalso; omega) | (simp [et5, et4, zU]; omega))⟩) (by intro j h1 h2; first | (have hd := iD j h1 (by omega); have hjk : j ≠ k := (by omega); simp [et5, et4, zU, hjk]; exact hd) | (exact if hj : j = k then (by subst hj; simp [et5, et4, zU]; omega) else (by have hd := iD j h1 (by omega); simp [et5, et4, zU, hj]; exact hd))) (by intro k hk; exact (by rw [et5, zU_cell (by omega), et4, zU_cell (by omega), iF k (by omega)])) (by first | exact iv | (rw [iv, mRd_s _ _ _ (by omega), if_pos (by omega), if_pos (by omega), if_pos (by omega)])) (by omega) (lv_sub hl [0, 1, 2, 3] rfl)
                · exact absurd c_118 c_52
          · rw [show (if 48 ≤ x1 ∧ x1 ≤ 52 then (1 : Int) else 0) = 0 from if_neg b_31]
            refine z_istore C [1, 2, 3, 4, 5, 0] [(0, .ref (a 100)), (1, .int (iI k)), (2, .int (iI 0)), (3, .int (iI i)), (4, .int (iI x1)), (5, .int (iI 0))] hl (by decide) rfl dX8_faultOfPlan_34 (fun ls hl => ?_)
            refine z_iload_n C hl 1 rfl dX8_faultOfPlan_36 ?_
            refine z_aload_n C hl 0 rfl dX8_faultOfPlan_37 ?_
            refine zg_X8_81 C hP dX8_faultOfPlan_38 ?_
            rw [show τ 100 11 = σ 100 11 from by rw [iF 100 (by omega)]]
            refine z_icmp_ge C 95 dX8_faultOfPlan_41 (by decide) ⟨by omega, by omega⟩ ⟨by omega, by omega⟩ (fun c_41 => ?_) (fun c_41 => ?_)
            · refine z_iconst C dX8_faultOfPlan_95 ?_
              refine z_istore C [1, 2, 3, 4, 5, 6, 0] [(0, .ref (a 100)), (1, .int (iI k)), (2, .int (iI 0)), (3, .int (iI i)), (4, .int (iI x1)), (5, .int (iI 0)), (6, .int (iI 0))] hl (by decide) rfl dX8_faultOfPlan_96 (fun ls hl => ?_)
              refine z_iload C hl 6 rfl dX8_faultOfPlan_98 ?_
              refine z_ifF_ne C 105 dX8_faultOfPlan_100 (by decide) ⟨by decide, by decide⟩ (by decide) ?_
              refine z_iload_n C hl 3 rfl dX8_faultOfPlan_103 ?_
              exact z_retQi C hP hS hr hlocks rfl (by exact ⟨(by first | (rw [iv, mRd_s _ _ _ (by omega)]; first | (rw [if_neg (by omega)]; omega) | (rw [if_pos (by omega), if_neg (by omega)]; omega) | (rw [if_pos (by omega), if_pos (by omega), if_neg (by omega)]; omega)) | (rw [iv, show (σ 100 11 - k).toNat = 0 from (by omega)]; unfold mRd; rw [show σ 100 11 = k from (by omega)]; first | (rw [if_pos (by omega)]; omega) | (rw [if_neg (by omega)]))), (fun k hk => (by rw [iF k (by omega)])), fun h => (by exfalso; omega)⟩) dX8_faultOfPlan_104
            · refine z_iload_n C hl 2 rfl dX8_faultOfPlan_44 ?_
              refine z_ifF_ne C 63 dX8_faultOfPlan_45 (by decide) ⟨by decide, by decide⟩ (by decide) ?_
              refine z_iload C hl 4 rfl dX8_faultOfPlan_48 ?_
              refine z_bipush C (by decide +kernel) dX8_faultOfPlan_50 ?_
              refine z_icmp_eq C 91 dX8_faultOfPlan_52 (by decide) ⟨by omega, by omega⟩ ⟨by omega, by omega⟩ (fun c_52 => ?_) (fun c_52 => ?_)
              · refine z_iconst C dX8_faultOfPlan_91 ?_
                refine z_goto C 96 dX8_faultOfPlan_92 (by decide) ?_
                refine z_istore C [1, 2, 3, 4, 5, 6, 0] [(0, .ref (a 100)), (1, .int (iI k)), (2, .int (iI 0)), (3, .int (iI i)), (4, .int (iI x1)), (5, .int (iI 0)), (6, .int (iI 1))] hl (by decide) rfl dX8_faultOfPlan_96 (fun ls hl => ?_)
                refine z_iload C hl 6 rfl dX8_faultOfPlan_98 ?_
                refine z_ifT_ne C 105 dX8_faultOfPlan_100 (by decide) ⟨by decide, by decide⟩ (by decide) ?_
                refine z_iload_n C hl 2 rfl dX8_faultOfPlan_105 ?_
                refine z_ifF_ne C 127 dX8_faultOfPlan_106 (by decide) ⟨by decide, by decide⟩ (by decide) ?_
                refine z_aload_n C hl 0 rfl dX8_faultOfPlan_109 ?_
                refine zg_X8_40 C hP dX8_faultOfPlan_110 ?_
                refine z_iload_n C hl 1 rfl dX8_faultOfPlan_113 ?_
                refine z_iload C hl 4 rfl dX8_faultOfPlan_114 ?_
                refine z_bipush C (by decide +kernel) dX8_faultOfPlan_116 ?_
                refine z_icmp_ne C 125 dX8_faultOfPlan_118 (by decide) ⟨by omega, by omega⟩ ⟨by omega, by omega⟩ (fun c_118 => ?_) (fun c_118 => ?_)
                · exact absurd c_52 c_118
                · refine z_iconst C dX8_faultOfPlan_121 ?_
                  refine z_goto C 126 dX8_faultOfPlan_122 (by decide) ?_
                  refine z_iast C hP hS ia_111 ⟨by omega, by omega⟩ dX8_faultOfPlan_126 (fun H locs hP hS => ?_)
                  obtain ⟨t6, et6⟩ : ∃ z : zS, z = zU τ 111 k 1 := ⟨_, rfl⟩
                  rw [← et6] at hP
                  refine z_iload_n C hl 2 rfl dX8_faultOfPlan_127 ?_
                  refine z_iconst C dX8_faultOfPlan_128 ?_
                  refine z_icmpF_ge C 151 dX8_faultOfPlan_129 (by decide) ⟨by decide, by decide⟩ ⟨by decide, by decide⟩ (by decide) ?_
                  refine z_iload C hl 5 rfl dX8_faultOfPlan_132 ?_
                  refine z_ifT_eq C 151 dX8_faultOfPlan_134 (by decide) ⟨by decide, by decide⟩ (by decide) ?_
                  refine z_iload_n C hl 2 rfl dX8_faultOfPlan_151 ?_
                  refine z_iconst C dX8_faultOfPlan_152 ?_
                  refine z_icmpT_ne C 170 dX8_faultOfPlan_153 (by decide) ⟨by decide, by decide⟩ ⟨by decide, by decide⟩ (by decide) ?_
                  refine z_iload_n C hl 2 rfl dX8_faultOfPlan_170 ?_
                  refine z_iconst C dX8_faultOfPlan_171 ?_
                  refine z_icmpT_ne C 191 dX8_faultOfPlan_172 (by decide) ⟨by decide, by decide⟩ ⟨by decide, by decide⟩ (by decide) ?_
                  refine z_iload_n C hl 2 rfl dX8_faultOfPlan_191 ?_
                  refine z_iconst C dX8_faultOfPlan_192 ?_
                  refine z_icmpT_ne C 200 dX8_faultOfPlan_193 (by decide) ⟨by decide, by decide⟩ ⟨by decide, by decide⟩ (by decide) ?_
                  refine z_iload_n C hl 2 rfl dX8_faultOfPlan_200 ?_
                  refine z_ifF_ne C 213 dX8_faultOfPlan_201 (by decide) ⟨by decide, by decide⟩ (by decide) ?_
                  refine z_iload C hl 5 rfl dX8_faultOfPlan_204 ?_
                  refine z_ifF_ne C 213 dX8_faultOfPlan_206 (by decide) ⟨by decide, by decide⟩ (by decide) ?_
                  refine z_iconst C dX8_faultOfPlan_209 ?_
                  refine z_goto C 223 dX8_faultOfPlan_210 (by decide) ?_
                  refine z_istore_n C [1, 2, 0, 3, 4, 5, 6] [(0, .ref (a 100)), (1, .int (iI k)), (2, .int (iI 1)), (3, .int (iI i)), (4, .int (iI x1)), (5, .int (iI 0)), (6, .int (iI 1))] hl (by decide) rfl dX8_faultOfPlan_223 (fun ls hl => ?_)
                  refine z_iinc C 3 [1, 2, 3, 0, 4, 5, 6] [(0, .ref (a 100)), (1, .int (iI k)), (2, .int (iI 1)), (3, .int (iI (i + 1))), (4, .int (iI x1)), (5, .int (iI 0)), (6, .int (iI 1))] hl rfl (by decide) rfl dX8_faultOfPlan_224 (fun ls hl => ?_)
                  refine z_goto C 6 dX8_faultOfPlan_227 (by decide) ?_
                  exact ih_6 k 1 (i + 1) t6 H locs hP hS ls (by omega) (by omega) (by omega) (by exact ⟨fun h => (by first | (exfalso; omega) | (simp [et6, zU]; omega)), fun h => (by first | (exfalso; omega) | (simp [et6, zU]; omega)), fun h => (by first | (exfalso; omega) | (simp [et6, zU]; omega))⟩) (by intro j h1 h2; first | (have hd := iD j h1 (by omega); have hjk : j ≠ k := (by omega); simp [et6, zU, hjk]; exact hd) | (exact if hj : j = k then (by subst hj; simp [et6, zU]; omega) else (by have hd := iD j h1 (by omega); simp [et6, zU, hj]; exact hd))) (by intro k hk; exact (by rw [et6, zU_cell (by omega), iF k (by omega)])) (by first | exact iv | (rw [iv, mRd_s _ _ _ (by omega), if_pos (by omega), if_pos (by omega), if_pos (by omega)])) (by omega) (lv_sub hl [0, 1, 2, 3] rfl)
              · refine z_iload C hl 5 rfl dX8_faultOfPlan_55 ?_
                refine z_ifT_eq C 95 dX8_faultOfPlan_57 (by decide) ⟨by decide, by decide⟩ (by decide) ?_
                refine z_iconst C dX8_faultOfPlan_95 ?_
                refine z_istore C [1, 2, 3, 4, 5, 6, 0] [(0, .ref (a 100)), (1, .int (iI k)), (2, .int (iI 0)), (3, .int (iI i)), (4, .int (iI x1)), (5, .int (iI 0)), (6, .int (iI 0))] hl (by decide) rfl dX8_faultOfPlan_96 (fun ls hl => ?_)
                refine z_iload C hl 6 rfl dX8_faultOfPlan_98 ?_
                refine z_ifF_ne C 105 dX8_faultOfPlan_100 (by decide) ⟨by decide, by decide⟩ (by decide) ?_
                refine z_iload_n C hl 3 rfl dX8_faultOfPlan_103 ?_
                exact z_retQi C hP hS hr hlocks rfl (by exact ⟨(by first | (rw [iv, mRd_s _ _ _ (by omega)]; first | (rw [if_neg (by omega)]; omega) | (rw [if_pos (by omega), if_neg (by omega)]; omega) | (rw [if_pos (by omega), if_pos (by omega), if_neg (by omega)]; omega)) | (rw [iv, show (σ 100 11 - k).toNat = 0 from (by omega)]; unfold mRd; rw [show σ 100 11 = k from (by omega)]; first | (rw [if_pos (by omega)]; omega) | (rw [if_neg (by omega)]))), (fun k hk => (by rw [iF k (by omega)])), fun h => (by exfalso; omega)⟩) dX8_faultOfPlan_104
        · have ip0 : i = mPl (mSgM σ) k.toNat + 1 ∧ mRst (mSgM σ) k = 1 ∧ k < σ 100 11 := by omega
          have iq1 := iq.1 (by omega)
          clear ip iq hrs
          have e1 : mEF (mSgM σ) k = mSgM σ i - 48 := by unfold mEF; rw [show mQ (mSgM σ) k = i from by omega]
          have gi : mSgM σ i = σ 110 i := if_pos ⟨ii.1, by omega⟩
          refine z_aload_n C hl 0 rfl dX8_faultOfPlan_14 ?_
          refine zg_X8_37 C hP dX8_faultOfPlan_15 ?_
          refine z_iload_n C hl 3 rfl dX8_faultOfPlan_18 ?_
          refine z_iald C hP ia_110 ⟨by omega, by omega⟩ dX8_faultOfPlan_19 ?_
          rw [show τ 110 i = σ 110 i from by rw [iF 110 (by omega)]]
          have hqi := hpq i (by omega) (by omega)
          refine z_topi (fun x7 hx7 => ?_)
          refine z_istore C [1, 2, 3, 4, 0] [(0, .ref (a 100)), (1, .int (iI k)), (2, .int (iI 1)), (3, .int (iI i)), (4, .int (iI x7))] hl (by decide) rfl dX8_faultOfPlan_20 (fun ls hl => ?_)
          refine z_iload C hl 4 rfl dX8_faultOfPlan_22 ?_
          refine z_i2l C ⟨by omega, by omega⟩ dX8_faultOfPlan_24 ?_
          refine z_ldc2 C (z := 48) wd_280 (by decide +kernel) dX8_faultOfPlan_25 ?_
          refine z_ldc2 C (z := 52) wd_281 (by decide +kernel) dX8_faultOfPlan_28 ?_
          refine z_sSi C hP (As := [.long (jI x7), .long (jI 48), .long (jI 52)]) lk_X8_86 (c_X8_in hI τ x7 48 52 ⟨by omega, by omega⟩ ⟨by decide, by decide⟩ ⟨by decide, by decide⟩) rfl hl.1 rfl (Nat.le_of_ble_eq_true rfl) ⟨Nat.le_of_ble_eq_true rfl, Nat.le_of_ble_eq_true rfl⟩ ⟨Nat.zero_le _, Nat.zero_le _⟩ dX8_faultOfPlan_31 ?_
          by_cases b_31 : 48 ≤ x7 ∧ x7 ≤ 52
          · rw [show (if 48 ≤ x7 ∧ x7 ≤ 52 then (1 : Int) else 0) = 1 from if_pos b_31]
            refine z_istore C [1, 2, 3, 4, 5, 0] [(0, .ref (a 100)), (1, .int (iI k)), (2, .int (iI 1)), (3, .int (iI i)), (4, .int (iI x7)), (5, .int (iI 1))] hl (by decide) rfl dX8_faultOfPlan_34 (fun ls hl => ?_)
            refine z_iload_n C hl 1 rfl dX8_faultOfPlan_36 ?_
            refine z_aload_n C hl 0 rfl dX8_faultOfPlan_37 ?_
            refine zg_X8_81 C hP dX8_faultOfPlan_38 ?_
            rw [show τ 100 11 = σ 100 11 from by rw [iF 100 (by omega)]]
            refine z_icmp_ge C 95 dX8_faultOfPlan_41 (by decide) ⟨by omega, by omega⟩ ⟨by omega, by omega⟩ (fun c_41 => ?_) (fun c_41 => ?_)
            · refine z_iconst C dX8_faultOfPlan_95 ?_
              refine z_istore C [1, 2, 3, 4, 5, 6, 0] [(0, .ref (a 100)), (1, .int (iI k)), (2, .int (iI 1)), (3, .int (iI i)), (4, .int (iI x7)), (5, .int (iI 1)), (6, .int (iI 0))] hl (by decide) rfl dX8_faultOfPlan_96 (fun ls hl => ?_)
              refine z_iload C hl 6 rfl dX8_faultOfPlan_98 ?_
              refine z_ifF_ne C 105 dX8_faultOfPlan_100 (by decide) ⟨by decide, by decide⟩ (by decide) ?_
              refine z_iload_n C hl 3 rfl dX8_faultOfPlan_103 ?_
              exact z_retQi C hP hS hr hlocks rfl (by exact ⟨(by first | (rw [iv, mRd_s _ _ _ (by omega)]; first | (rw [if_neg (by omega)]; omega) | (rw [if_pos (by omega), if_neg (by omega)]; omega) | (rw [if_pos (by omega), if_pos (by omega), if_neg (by omega)]; omega)) | (rw [iv, show (σ 100 11 - k).toNat = 0 from (by omega)]; unfold mRd; rw [show σ 100 11 = k from (by omega)]; first | (rw [if_pos (by omega)]; omega) | (rw [if_neg (by omega)]))), (fun k hk => (by rw [iF k (by omega)])), fun h => (by exfalso; omega)⟩) dX8_faultOfPlan_104
            · refine z_iload_n C hl 2 rfl dX8_faultOfPlan_44 ?_
              refine z_ifT_ne C 63 dX8_faultOfPlan_45 (by decide) ⟨by decide, by decide⟩ (by decide) ?_
              refine z_iload_n C hl 2 rfl dX8_faultOfPlan_63 ?_
              refine z_iconst C dX8_faultOfPlan_64 ?_
              refine z_icmpF_ge C 76 dX8_faultOfPlan_65 (by decide) ⟨by decide, by decide⟩ ⟨by decide, by decide⟩ (by decide) ?_
              refine z_iload C hl 5 rfl dX8_faultOfPlan_68 ?_
              refine z_ifF_eq C 95 dX8_faultOfPlan_70 (by decide) ⟨by decide, by decide⟩ (by decide) ?_
              refine z_goto C 91 dX8_faultOfPlan_73 (by decide) ?_
              refine z_iconst C dX8_faultOfPlan_91 ?_
              refine z_goto C 96 dX8_faultOfPlan_92 (by decide) ?_
              refine z_istore C [1, 2, 3, 4, 5, 6, 0] [(0, .ref (a 100)), (1, .int (iI k)), (2, .int (iI 1)), (3, .int (iI i)), (4, .int (iI x7)), (5, .int (iI 1)), (6, .int (iI 1))] hl (by decide) rfl dX8_faultOfPlan_96 (fun ls hl => ?_)
              refine z_iload C hl 6 rfl dX8_faultOfPlan_98 ?_
              refine z_ifT_ne C 105 dX8_faultOfPlan_100 (by decide) ⟨by decide, by decide⟩ (by decide) ?_
              refine z_iload_n C hl 2 rfl dX8_faultOfPlan_105 ?_
              refine z_ifT_ne C 127 dX8_faultOfPlan_106 (by decide) ⟨by decide, by decide⟩ (by decide) ?_
              refine z_iload_n C hl 2 rfl dX8_faultOfPlan_127 ?_
              refine z_iconst C dX8_faultOfPlan_128 ?_
              refine z_icmpF_ge C 151 dX8_faultOfPlan_129 (by decide) ⟨by decide, by decide⟩ ⟨by decide, by decide⟩ (by decide) ?_
              refine z_iload C hl 5 rfl dX8_faultOfPlan_132 ?_
              refine z_ifF_eq C 151 dX8_faultOfPlan_134 (by decide) ⟨by decide, by decide⟩ (by decide) ?_
              refine z_aload_n C hl 0 rfl dX8_faultOfPlan_137 ?_
              refine zg_X8_43 C hP dX8_faultOfPlan_138 ?_
              refine z_iload_n C hl 1 rfl dX8_faultOfPlan_141 ?_
              refine z_iload C hl 4 rfl dX8_faultOfPlan_142 ?_
              refine z_bipush C (by decide +kernel) dX8_faultOfPlan_144 ?_
              refine z_isub C dX8_faultOfPlan_146 ?_
              refine z_iast C hP hS ia_112 ⟨by omega, by omega⟩ dX8_faultOfPlan_147 (fun H locs hP hS => ?_)
              obtain ⟨t8, et8⟩ : ∃ z : zS, z = zU τ 112 k (x7 - 48) := ⟨_, rfl⟩
              rw [← et8] at hP
              refine z_goto C 191 dX8_faultOfPlan_148 (by decide) ?_
              refine z_iload_n C hl 2 rfl dX8_faultOfPlan_191 ?_
              refine z_iconst C dX8_faultOfPlan_192 ?_
              refine z_icmpT_ne C 200 dX8_faultOfPlan_193 (by decide) ⟨by decide, by decide⟩ ⟨by decide, by decide⟩ (by decide) ?_
              refine z_iload_n C hl 2 rfl dX8_faultOfPlan_200 ?_
              refine z_ifT_ne C 213 dX8_faultOfPlan_201 (by decide) ⟨by decide, by decide⟩ (by decide) ?_
              refine z_iload_n C hl 2 rfl dX8_faultOfPlan_213 ?_
              refine z_iconst C dX8_faultOfPlan_214 ?_
              refine z_icmpF_ge C 222 dX8_faultOfPlan_215 (by decide) ⟨by decide, by decide⟩ ⟨by decide, by decide⟩ (by decide) ?_
              refine z_iconst C dX8_faultOfPlan_218 ?_
              refine z_goto C 223 dX8_faultOfPlan_219 (by decide) ?_
              refine z_istore_n C [1, 2, 0, 3, 4, 5, 6] [(0, .ref (a 100)), (1, .int (iI k)), (2, .int (iI 2)), (3, .int (iI i)), (4, .int (iI x7)), (5, .int (iI 1)), (6, .int (iI 1))] hl (by decide) rfl dX8_faultOfPlan_223 (fun ls hl => ?_)
              refine z_iinc C 3 [1, 2, 3, 0, 4, 5, 6] [(0, .ref (a 100)), (1, .int (iI k)), (2, .int (iI 2)), (3, .int (iI (i + 1))), (4, .int (iI x7)), (5, .int (iI 1)), (6, .int (iI 1))] hl rfl (by decide) rfl dX8_faultOfPlan_224 (fun ls hl => ?_)
              refine z_goto C 6 dX8_faultOfPlan_227 (by decide) ?_
              exact ih_6 k 2 (i + 1) t8 H locs hP hS ls (by omega) (by omega) (by omega) (by exact ⟨fun h => (by first | (exfalso; omega) | (simp [et8, zU]; omega)), fun h => (by first | (exfalso; omega) | (simp [et8, zU]; omega)), fun h => (by first | (exfalso; omega) | (simp [et8, zU]; omega))⟩) (by intro j h1 h2; first | (have hd := iD j h1 (by omega); have hjk : j ≠ k := (by omega); simp [et8, zU, hjk]; exact hd) | (exact if hj : j = k then (by subst hj; simp [et8, zU]; omega) else (by have hd := iD j h1 (by omega); simp [et8, zU, hj]; exact hd))) (by intro k hk; exact (by rw [et8, zU_cell (by omega), iF k (by omega)])) (by first | exact iv | (rw [iv, mRd_s _ _ _ (by omega), if_pos (by omega), if_pos (by omega), if_pos (by omega)])) (by omega) (lv_sub hl [0, 1, 2, 3] rfl)
          · rw [show (if 48 ≤ x7 ∧ x7 ≤ 52 then (1 : Int) else 0) = 0 from if_neg b_31]
            refine z_istore C [1, 2, 3, 4, 5, 0] [(0, .ref (a 100)), (1, .int (iI k)), (2, .int (iI 1)), (3, .int (iI i)), (4, .int (iI x7)), (5, .int (iI 0))] hl (by decide) rfl dX8_faultOfPlan_34 (fun ls hl => ?_)
            refine z_iload_n C hl 1 rfl dX8_faultOfPlan_36 ?_
            refine z_aload_n C hl 0 rfl dX8_faultOfPlan_37 ?_
            refine zg_X8_81 C hP dX8_faultOfPlan_38 ?_
            rw [show τ 100 11 = σ 100 11 from by rw [iF 100 (by omega)]]
            refine z_icmp_ge C 95 dX8_faultOfPlan_41 (by decide) ⟨by omega, by omega⟩ ⟨by omega, by omega⟩ (fun c_41 => ?_) (fun c_41 => ?_)
            · refine z_iconst C dX8_faultOfPlan_95 ?_
              refine z_istore C [1, 2, 3, 4, 5, 6, 0] [(0, .ref (a 100)), (1, .int (iI k)), (2, .int (iI 1)), (3, .int (iI i)), (4, .int (iI x7)), (5, .int (iI 0)), (6, .int (iI 0))] hl (by decide) rfl dX8_faultOfPlan_96 (fun ls hl => ?_)
              refine z_iload C hl 6 rfl dX8_faultOfPlan_98 ?_
              refine z_ifF_ne C 105 dX8_faultOfPlan_100 (by decide) ⟨by decide, by decide⟩ (by decide) ?_
              refine z_iload_n C hl 3 rfl dX8_faultOfPlan_103 ?_
              exact z_retQi C hP hS hr hlocks rfl (by exact ⟨(by first | (rw [iv, mRd_s _ _ _ (by omega)]; first | (rw [if_neg (by omega)]; omega) | (rw [if_pos (by omega), if_neg (by omega)]; omega) | (rw [if_pos (by omega), if_pos (by omega), if_neg (by omega)]; omega)) | (rw [iv, show (σ 100 11 - k).toNat = 0 from (by omega)]; unfold mRd; rw [show σ 100 11 = k from (by omega)]; first | (rw [if_pos (by omega)]; omega) | (rw [if_neg (by omega)]))), (fun k hk => (by rw [iF k (by omega)])), fun h => (by exfalso; omega)⟩) dX8_faultOfPlan_104
            · refine z_iload_n C hl 2 rfl dX8_faultOfPlan_44 ?_
              refine z_ifT_ne C 63 dX8_faultOfPlan_45 (by decide) ⟨by decide, by decide⟩ (by decide) ?_
              refine z_iload_n C hl 2 rfl dX8_faultOfPlan_63 ?_
              refine z_iconst C dX8_faultOfPlan_64 ?_
              refine z_icmpF_ge C 76 dX8_faultOfPlan_65 (by decide) ⟨by decide, by decide⟩ ⟨by decide, by decide⟩ (by decide) ?_
              refine z_iload C hl 5 rfl dX8_faultOfPlan_68 ?_
              refine z_ifT_eq C 95 dX8_faultOfPlan_70 (by decide) ⟨by decide, by decide⟩ (by decide) ?_
              refine z_iconst C dX8_faultOfPlan_95 ?_
              refine z_istore C [1, 2, 3, 4, 5, 6, 0] [(0, .ref (a 100)), (1, .int (iI k)), (2, .int (iI 1)), (3, .int (iI i)), (4, .int (iI x7)), (5, .int (iI 0)), (6, .int (iI 0))] hl (by decide) rfl dX8_faultOfPlan_96 (fun ls hl => ?_)
              refine z_iload C hl 6 rfl dX8_faultOfPlan_98 ?_
              refine z_ifF_ne C 105 dX8_faultOfPlan_100 (by decide) ⟨by decide, by decide⟩ (by decide) ?_
              refine z_iload_n C hl 3 rfl dX8_faultOfPlan_103 ?_
              exact z_retQi C hP hS hr hlocks rfl (by exact ⟨(by first | (rw [iv, mRd_s _ _ _ (by omega)]; first | (rw [if_neg (by omega)]; omega) | (rw [if_pos (by omega), if_neg (by omega)]; omega) | (rw [if_pos (by omega), if_pos (by omega), if_neg (by omega)]; omega)) | (rw [iv, show (σ 100 11 - k).toNat = 0 from (by omega)]; unfold mRd; rw [show σ 100 11 = k from (by omega)]; first | (rw [if_pos (by omega)]; omega) | (rw [if_neg (by omega)]))), (fun k hk => (by rw [iF k (by omega)])), fun h => (by exfalso; omega)⟩) dX8_faultOfPlan_104
        · have ip0 : i = mQ (mSgM σ) k + 1 ∧ k < σ 100 11 ∧ 0 ≤ mEF (mSgM σ) k ∧ mEF (mSgM σ) k ≤ 4 := by omega
          have iq1 := iq.1 (by omega)
          have iq2 := iq.2.1 (by omega)
          clear ip iq hrs
          have e2 : mEB (mSgM σ) k = mSgM σ i - 48 := by unfold mEB; rw [show mQ (mSgM σ) k + 1 = i from by omega]
          have gi : mSgM σ i = σ 110 i := if_pos ⟨ii.1, by omega⟩
          refine z_aload_n C hl 0 rfl dX8_faultOfPlan_14 ?_
          refine zg_X8_37 C hP dX8_faultOfPlan_15 ?_
          refine z_iload_n C hl 3 rfl dX8_faultOfPlan_18 ?_
          refine z_iald C hP ia_110 ⟨by omega, by omega⟩ dX8_faultOfPlan_19 ?_
          rw [show τ 110 i = σ 110 i from by rw [iF 110 (by omega)]]
          have hqi := hpq i (by omega) (by omega)
          refine z_topi (fun x9 hx9 => ?_)
          refine z_istore C [1, 2, 3, 4, 0] [(0, .ref (a 100)), (1, .int (iI k)), (2, .int (iI 2)), (3, .int (iI i)), (4, .int (iI x9))] hl (by decide) rfl dX8_faultOfPlan_20 (fun ls hl => ?_)
          refine z_iload C hl 4 rfl dX8_faultOfPlan_22 ?_
          refine z_i2l C ⟨by omega, by omega⟩ dX8_faultOfPlan_24 ?_
          refine z_ldc2 C (z := 48) wd_280 (by decide +kernel) dX8_faultOfPlan_25 ?_
          refine z_ldc2 C (z := 52) wd_281 (by decide +kernel) dX8_faultOfPlan_28 ?_
          refine z_sSi C hP (As := [.long (jI x9), .long (jI 48), .long (jI 52)]) lk_X8_86 (c_X8_in hI τ x9 48 52 ⟨by omega, by omega⟩ ⟨by decide, by decide⟩ ⟨by decide, by decide⟩) rfl hl.1 rfl (Nat.le_of_ble_eq_true rfl) ⟨Nat.le_of_ble_eq_true rfl, Nat.le_of_ble_eq_true rfl⟩ ⟨Nat.zero_le _, Nat.zero_le _⟩ dX8_faultOfPlan_31 ?_
          by_cases b_31 : 48 ≤ x9 ∧ x9 ≤ 52
          · rw [show (if 48 ≤ x9 ∧ x9 ≤ 52 then (1 : Int) else 0) = 1 from if_pos b_31]
            refine z_istore C [1, 2, 3, 4, 5, 0] [(0, .ref (a 100)), (1, .int (iI k)), (2, .int (iI 2)), (3, .int (iI i)), (4, .int (iI x9)), (5, .int (iI 1))] hl (by decide) rfl dX8_faultOfPlan_34 (fun ls hl => ?_)
            refine z_iload_n C hl 1 rfl dX8_faultOfPlan_36 ?_
            refine z_aload_n C hl 0 rfl dX8_faultOfPlan_37 ?_
            refine zg_X8_81 C hP dX8_faultOfPlan_38 ?_
            rw [show τ 100 11 = σ 100 11 from by rw [iF 100 (by omega)]]
            refine z_icmp_ge C 95 dX8_faultOfPlan_41 (by decide) ⟨by omega, by omega⟩ ⟨by omega, by omega⟩ (fun c_41 => ?_) (fun c_41 => ?_)
            · refine z_iconst C dX8_faultOfPlan_95 ?_
              refine z_istore C [1, 2, 3, 4, 5, 6, 0] [(0, .ref (a 100)), (1, .int (iI k)), (2, .int (iI 2)), (3, .int (iI i)), (4, .int (iI x9)), (5, .int (iI 1)), (6, .int (iI 0))] hl (by decide) rfl dX8_faultOfPlan_96 (fun ls hl => ?_)
              refine z_iload C hl 6 rfl dX8_faultOfPlan_98 ?_
              refine z_ifF_ne C 105 dX8_faultOfPlan_100 (by decide) ⟨by decide, by decide⟩ (by decide) ?_
              refine z_iload_n C hl 3 rfl dX8_faultOfPlan_103 ?_
              exact z_retQi C hP hS hr hlocks rfl (by exact ⟨(by first | (rw [iv, mRd_s _ _ _ (by omega)]; first | (rw [if_neg (by omega)]; omega) | (rw [if_pos (by omega), if_neg (by omega)]; omega) | (rw [if_pos (by omega), if_pos (by omega), if_neg (by omega)]; omega)) | (rw [iv, show (σ 100 11 - k).toNat = 0 from (by omega)]; unfold mRd; rw [show σ 100 11 = k from (by omega)]; first | (rw [if_pos (by omega)]; omega) | (rw [if_neg (by omega)]))), (fun k hk => (by rw [iF k (by omega)])), fun h => (by exfalso; omega)⟩) dX8_faultOfPlan_104
            · refine z_iload_n C hl 2 rfl dX8_faultOfPlan_44 ?_
              refine z_ifT_ne C 63 dX8_faultOfPlan_45 (by decide) ⟨by decide, by decide⟩ (by decide) ?_
              refine z_iload_n C hl 2 rfl dX8_faultOfPlan_63 ?_
              refine z_iconst C dX8_faultOfPlan_64 ?_
              refine z_icmpF_ge C 76 dX8_faultOfPlan_65 (by decide) ⟨by decide, by decide⟩ ⟨by decide, by decide⟩ (by decide) ?_
              refine z_iload C hl 5 rfl dX8_faultOfPlan_68 ?_
              refine z_ifF_eq C 95 dX8_faultOfPlan_70 (by decide) ⟨by decide, by decide⟩ (by decide) ?_
              refine z_goto C 91 dX8_faultOfPlan_73 (by decide) ?_
              refine z_iconst C dX8_faultOfPlan_91 ?_
              refine z_goto C 96 dX8_faultOfPlan_92 (by decide) ?_
              refine z_istore C [1, 2, 3, 4, 5, 6, 0] [(0, .ref (a 100)), (1, .int (iI k)), (2, .int (iI 2)), (3, .int (iI i)), (4, .int (iI x9)), (5, .int (iI 1)), (6, .int (iI 1))] hl (by decide) rfl dX8_faultOfPlan_96 (fun ls hl => ?_)
              refine z_iload C hl 6 rfl dX8_faultOfPlan_98 ?_
              refine z_ifT_ne C 105 dX8_faultOfPlan_100 (by decide) ⟨by decide, by decide⟩ (by decide) ?_
              refine z_iload_n C hl 2 rfl dX8_faultOfPlan_105 ?_
              refine z_ifT_ne C 127 dX8_faultOfPlan_106 (by decide) ⟨by decide, by decide⟩ (by decide) ?_
              refine z_iload_n C hl 2 rfl dX8_faultOfPlan_127 ?_
              refine z_iconst C dX8_faultOfPlan_128 ?_
              refine z_icmpT_ge C 151 dX8_faultOfPlan_129 (by decide) ⟨by decide, by decide⟩ ⟨by decide, by decide⟩ (by decide) ?_
              refine z_iload_n C hl 2 rfl dX8_faultOfPlan_151 ?_
              refine z_iconst C dX8_faultOfPlan_152 ?_
              refine z_icmpF_ne C 170 dX8_faultOfPlan_153 (by decide) ⟨by decide, by decide⟩ ⟨by decide, by decide⟩ (by decide) ?_
              refine z_aload_n C hl 0 rfl dX8_faultOfPlan_156 ?_
              refine zg_X8_46 C hP dX8_faultOfPlan_157 ?_
              refine z_iload_n C hl 1 rfl dX8_faultOfPlan_160 ?_
              refine z_iload C hl 4 rfl dX8_faultOfPlan_161 ?_
              refine z_bipush C (by decide +kernel) dX8_faultOfPlan_163 ?_
              refine z_isub C dX8_faultOfPlan_165 ?_
              refine z_iast C hP hS ia_113 ⟨by omega, by omega⟩ dX8_faultOfPlan_166 (fun H locs hP hS => ?_)
              obtain ⟨t10, et10⟩ : ∃ z : zS, z = zU τ 113 k (x9 - 48) := ⟨_, rfl⟩
              rw [← et10] at hP
              refine z_goto C 191 dX8_faultOfPlan_167 (by decide) ?_
              refine z_iload_n C hl 2 rfl dX8_faultOfPlan_191 ?_
              refine z_iconst C dX8_faultOfPlan_192 ?_
              refine z_icmpT_ne C 200 dX8_faultOfPlan_193 (by decide) ⟨by decide, by decide⟩ ⟨by decide, by decide⟩ (by decide) ?_
              refine z_iload_n C hl 2 rfl dX8_faultOfPlan_200 ?_
              refine z_ifT_ne C 213 dX8_faultOfPlan_201 (by decide) ⟨by decide, by decide⟩ (by decide) ?_
              refine z_iload_n C hl 2 rfl dX8_faultOfPlan_213 ?_
              refine z_iconst C dX8_faultOfPlan_214 ?_
              refine z_icmpT_ge C 222 dX8_faultOfPlan_215 (by decide) ⟨by decide, by decide⟩ ⟨by decide, by decide⟩ (by decide) ?_
              refine z_iconst C dX8_faultOfPlan_222 ?_
              refine z_istore_n C [1, 2, 0, 3, 4, 5, 6] [(0, .ref (a 100)), (1, .int (iI k)), (2, .int (iI 3)), (3, .int (iI i)), (4, .int (iI x9)), (5, .int (iI 1)), (6, .int (iI 1))] hl (by decide) rfl dX8_faultOfPlan_223 (fun ls hl => ?_)
              refine z_iinc C 3 [1, 2, 3, 0, 4, 5, 6] [(0, .ref (a 100)), (1, .int (iI k)), (2, .int (iI 3)), (3, .int (iI (i + 1))), (4, .int (iI x9)), (5, .int (iI 1)), (6, .int (iI 1))] hl rfl (by decide) rfl dX8_faultOfPlan_224 (fun ls hl => ?_)
              refine z_goto C 6 dX8_faultOfPlan_227 (by decide) ?_
              exact ih_6 k 3 (i + 1) t10 H locs hP hS ls (by omega) (by omega) (by omega) (by exact ⟨fun h => (by first | (exfalso; omega) | (simp [et10, zU]; omega)), fun h => (by first | (exfalso; omega) | (simp [et10, zU]; omega)), fun h => (by first | (exfalso; omega) | (simp [et10, zU]; omega))⟩) (by intro j h1 h2; first | (have hd := iD j h1 (by omega); have hjk : j ≠ k := (by omega); simp [et10, zU, hjk]; exact hd) | (exact if hj : j = k then (by subst hj; simp [et10, zU]; omega) else (by have hd := iD j h1 (by omega); simp [et10, zU, hj]; exact hd))) (by intro k hk; exact (by rw [et10, zU_cell (by omega), iF k (by omega)])) (by first | exact iv | (rw [iv, mRd_s _ _ _ (by omega), if_pos (by omega), if_pos (by omega), if_pos (by omega)])) (by omega) (lv_sub hl [0, 1, 2, 3] rfl)
          · rw [show (if 48 ≤ x9 ∧ x9 ≤ 52 then (1 : Int) else 0) = 0 from if_neg b_31]
            refine z_istore C [1, 2, 3, 4, 5, 0] [(0, .ref (a 100)), (1, .int (iI k)), (2, .int (iI 2)), (3, .int (iI i)), (4, .int (iI x9)), (5, .int (iI 0))] hl (by decide) rfl dX8_faultOfPlan_34 (fun ls hl => ?_)
            refine z_iload_n C hl 1 rfl dX8_faultOfPlan_36 ?_
            refine z_aload_n C hl 0 rfl dX8_faultOfPlan_37 ?_
            refine zg_X8_81 C hP dX8_faultOfPlan_38 ?_
            rw [show τ 100 11 = σ 100 11 from by rw [iF 100 (by omega)]]
            refine z_icmp_ge C 95 dX8_faultOfPlan_41 (by decide) ⟨by omega, by omega⟩ ⟨by omega, by omega⟩ (fun c_41 => ?_) (fun c_41 => ?_)
            · refine z_iconst C dX8_faultOfPlan_95 ?_
              refine z_istore C [1, 2, 3, 4, 5, 6, 0] [(0, .ref (a 100)), (1, .int (iI k)), (2, .int (iI 2)), (3, .int (iI i)), (4, .int (iI x9)), (5, .int (iI 0)), (6, .int (iI 0))] hl (by decide) rfl dX8_faultOfPlan_96 (fun ls hl => ?_)
              refine z_iload C hl 6 rfl dX8_faultOfPlan_98 ?_
              refine z_ifF_ne C 105 dX8_faultOfPlan_100 (by decide) ⟨by decide, by decide⟩ (by decide) ?_
              refine z_iload_n C hl 3 rfl dX8_faultOfPlan_103 ?_
              exact z_retQi C hP hS hr hlocks rfl (by exact ⟨(by first | (rw [iv, mRd_s _ _ _ (by omega)]; first | (rw [if_neg (by omega)]; omega) | (rw [if_pos (by omega), if_neg (by omega)]; omega) | (rw [if_pos (by omega), if_pos (by omega), if_neg (by omega)]; omega)) | (rw [iv, show (σ 100 11 - k).toNat = 0 from (by omega)]; unfold mRd; rw [show σ 100 11 = k from (by omega)]; first | (rw [if_pos (by omega)]; omega) | (rw [if_neg (by omega)]))), (fun k hk => (by rw [iF k (by omega)])), fun h => (by exfalso; omega)⟩) dX8_faultOfPlan_104
            · refine z_iload_n C hl 2 rfl dX8_faultOfPlan_44 ?_
              refine z_ifT_ne C 63 dX8_faultOfPlan_45 (by decide) ⟨by decide, by decide⟩ (by decide) ?_
              refine z_iload_n C hl 2 rfl dX8_faultOfPlan_63 ?_
              refine z_iconst C dX8_faultOfPlan_64 ?_
              refine z_icmpF_ge C 76 dX8_faultOfPlan_65 (by decide) ⟨by decide, by decide⟩ ⟨by decide, by decide⟩ (by decide) ?_
              refine z_iload C hl 5 rfl dX8_faultOfPlan_68 ?_
              refine z_ifT_eq C 95 dX8_faultOfPlan_70 (by decide) ⟨by decide, by decide⟩ (by decide) ?_
              refine z_iconst C dX8_faultOfPlan_95 ?_
              refine z_istore C [1, 2, 3, 4, 5, 6, 0] [(0, .ref (a 100)), (1, .int (iI k)), (2, .int (iI 2)), (3, .int (iI i)), (4, .int (iI x9)), (5, .int (iI 0)), (6, .int (iI 0))] hl (by decide) rfl dX8_faultOfPlan_96 (fun ls hl => ?_)
              refine z_iload C hl 6 rfl dX8_faultOfPlan_98 ?_
              refine z_ifF_ne C 105 dX8_faultOfPlan_100 (by decide) ⟨by decide, by decide⟩ (by decide) ?_
              refine z_iload_n C hl 3 rfl dX8_faultOfPlan_103 ?_
              exact z_retQi C hP hS hr hlocks rfl (by exact ⟨(by first | (rw [iv, mRd_s _ _ _ (by omega)]; first | (rw [if_neg (by omega)]; omega) | (rw [if_pos (by omega), if_neg (by omega)]; omega) | (rw [if_pos (by omega), if_pos (by omega), if_neg (by omega)]; omega)) | (rw [iv, show (σ 100 11 - k).toNat = 0 from (by omega)]; unfold mRd; rw [show σ 100 11 = k from (by omega)]; first | (rw [if_pos (by omega)]; omega) | (rw [if_neg (by omega)]))), (fun k hk => (by rw [iF k (by omega)])), fun h => (by exfalso; omega)⟩) dX8_faultOfPlan_104
        · have ip0 : i = mQ (mSgM σ) k + 2 ∧ k < σ 100 11 ∧ (0 ≤ mEF (mSgM σ) k ∧ mEF (mSgM σ) k ≤ 4) ∧ 0 ≤ mEB (mSgM σ) k ∧ mEB (mSgM σ) k ≤ 4 := by omega
          have iq1 := iq.1 (by omega)
          have iq2 := iq.2.1 (by omega)
          have iq3 := iq.2.2 (by omega)
          clear ip iq hrs
          have e3 : mBt (mSgM σ) k = mSgM σ i - 93 := by unfold mBt; rw [show mQ (mSgM σ) k + 2 = i from by omega]
          have gi : mSgM σ i = σ 110 i := if_pos ⟨ii.1, by omega⟩
          refine z_aload_n C hl 0 rfl dX8_faultOfPlan_14 ?_
          refine zg_X8_37 C hP dX8_faultOfPlan_15 ?_
          refine z_iload_n C hl 3 rfl dX8_faultOfPlan_18 ?_
          refine z_iald C hP ia_110 ⟨by omega, by omega⟩ dX8_faultOfPlan_19 ?_
          rw [show τ 110 i = σ 110 i from by rw [iF 110 (by omega)]]
          have hqi := hpq i (by omega) (by omega)
          refine z_topi (fun x11 hx11 => ?_)
          refine z_istore C [1, 2, 3, 4, 0] [(0, .ref (a 100)), (1, .int (iI k)), (2, .int (iI 3)), (3, .int (iI i)), (4, .int (iI x11))] hl (by decide) rfl dX8_faultOfPlan_20 (fun ls hl => ?_)
          refine z_iload C hl 4 rfl dX8_faultOfPlan_22 ?_
          refine z_i2l C ⟨by omega, by omega⟩ dX8_faultOfPlan_24 ?_
          refine z_ldc2 C (z := 48) wd_280 (by decide +kernel) dX8_faultOfPlan_25 ?_
          refine z_ldc2 C (z := 52) wd_281 (by decide +kernel) dX8_faultOfPlan_28 ?_
          refine z_sSi C hP (As := [.long (jI x11), .long (jI 48), .long (jI 52)]) lk_X8_86 (c_X8_in hI τ x11 48 52 ⟨by omega, by omega⟩ ⟨by decide, by decide⟩ ⟨by decide, by decide⟩) rfl hl.1 rfl (Nat.le_of_ble_eq_true rfl) ⟨Nat.le_of_ble_eq_true rfl, Nat.le_of_ble_eq_true rfl⟩ ⟨Nat.zero_le _, Nat.zero_le _⟩ dX8_faultOfPlan_31 ?_
          by_cases b_31 : 48 ≤ x11 ∧ x11 ≤ 52
          · rw [show (if 48 ≤ x11 ∧ x11 ≤ 52 then (1 : Int) else 0) = 1 from if_pos b_31]
            refine z_istore C [1, 2, 3, 4, 5, 0] [(0, .ref (a 100)), (1, .int (iI k)), (2, .int (iI 3)), (3, .int (iI i)), (4, .int (iI x11)), (5, .int (iI 1))] hl (by decide) rfl dX8_faultOfPlan_34 (fun ls hl => ?_)
            refine z_iload_n C hl 1 rfl dX8_faultOfPlan_36 ?_
            refine z_aload_n C hl 0 rfl dX8_faultOfPlan_37 ?_
            refine zg_X8_81 C hP dX8_faultOfPlan_38 ?_
            rw [show τ 100 11 = σ 100 11 from by rw [iF 100 (by omega)]]
            refine z_icmp_ge C 95 dX8_faultOfPlan_41 (by decide) ⟨by omega, by omega⟩ ⟨by omega, by omega⟩ (fun c_41 => ?_) (fun c_41 => ?_)
            · refine z_iconst C dX8_faultOfPlan_95 ?_
              refine z_istore C [1, 2, 3, 4, 5, 6, 0] [(0, .ref (a 100)), (1, .int (iI k)), (2, .int (iI 3)), (3, .int (iI i)), (4, .int (iI x11)), (5, .int (iI 1)), (6, .int (iI 0))] hl (by decide) rfl dX8_faultOfPlan_96 (fun ls hl => ?_)
              refine z_iload C hl 6 rfl dX8_faultOfPlan_98 ?_
              refine z_ifF_ne C 105 dX8_faultOfPlan_100 (by decide) ⟨by decide, by decide⟩ (by decide) ?_
              refine z_iload_n C hl 3 rfl dX8_faultOfPlan_103 ?_
              exact z_retQi C hP hS hr hlocks rfl (by exact ⟨(by first | (rw [iv, mRd_s _ _ _ (by omega)]; first | (rw [if_neg (by omega)]; omega) | (rw [if_pos (by omega), if_neg (by omega)]; omega) | (rw [if_pos (by omega), if_pos (by omega), if_neg (by omega)]; omega)) | (rw [iv, show (σ 100 11 - k).toNat = 0 from (by omega)]; unfold mRd; rw [show σ 100 11 = k from (by omega)]; first | (rw [if_pos (by omega)]; omega) | (rw [if_neg (by omega)]))), (fun k hk => (by rw [iF k (by omega)])), fun h => (by exfalso; omega)⟩) dX8_faultOfPlan_104
            · refine z_iload_n C hl 2 rfl dX8_faultOfPlan_44 ?_
              refine z_ifT_ne C 63 dX8_faultOfPlan_45 (by decide) ⟨by decide, by decide⟩ (by decide) ?_
              refine z_iload_n C hl 2 rfl dX8_faultOfPlan_63 ?_
              refine z_iconst C dX8_faultOfPlan_64 ?_
              refine z_icmpT_ge C 76 dX8_faultOfPlan_65 (by decide) ⟨by decide, by decide⟩ ⟨by decide, by decide⟩ (by decide) ?_
              refine z_iload C hl 4 rfl dX8_faultOfPlan_76 ?_
              refine z_i2l C ⟨by omega, by omega⟩ dX8_faultOfPlan_78 ?_
              refine z_ldc2 C (z := 97) wd_282 (by decide +kernel) dX8_faultOfPlan_79 ?_
              refine z_ldc2 C (z := 103) wd_283 (by decide +kernel) dX8_faultOfPlan_82 ?_
              refine z_sSi C hP (As := [.long (jI x11), .long (jI 97), .long (jI 103)]) lk_X8_86 (c_X8_in hI τ x11 97 103 ⟨by omega, by omega⟩ ⟨by decide, by decide⟩ ⟨by decide, by decide⟩) rfl hl.1 rfl (Nat.le_of_ble_eq_true rfl) ⟨Nat.le_of_ble_eq_true rfl, Nat.le_of_ble_eq_true rfl⟩ ⟨Nat.zero_le _, Nat.zero_le _⟩ dX8_faultOfPlan_85 ?_
              by_cases b_85 : 97 ≤ x11 ∧ x11 ≤ 103
              · rw [show (if 97 ≤ x11 ∧ x11 ≤ 103 then (1 : Int) else 0) = 1 from if_pos b_85]
                refine z_ifF_eq C 95 dX8_faultOfPlan_88 (by decide) ⟨by decide, by decide⟩ (by decide) ?_
                refine z_iconst C dX8_faultOfPlan_91 ?_
                refine z_goto C 96 dX8_faultOfPlan_92 (by decide) ?_
                refine z_istore C [1, 2, 3, 4, 5, 6, 0] [(0, .ref (a 100)), (1, .int (iI k)), (2, .int (iI 3)), (3, .int (iI i)), (4, .int (iI x11)), (5, .int (iI 1)), (6, .int (iI 1))] hl (by decide) rfl dX8_faultOfPlan_96 (fun ls hl => ?_)
                refine z_iload C hl 6 rfl dX8_faultOfPlan_98 ?_
                refine z_ifT_ne C 105 dX8_faultOfPlan_100 (by decide) ⟨by decide, by decide⟩ (by decide) ?_
                refine z_iload_n C hl 2 rfl dX8_faultOfPlan_105 ?_
                refine z_ifT_ne C 127 dX8_faultOfPlan_106 (by decide) ⟨by decide, by decide⟩ (by decide) ?_
                refine z_iload_n C hl 2 rfl dX8_faultOfPlan_127 ?_
                refine z_iconst C dX8_faultOfPlan_128 ?_
                refine z_icmpT_ge C 151 dX8_faultOfPlan_129 (by decide) ⟨by decide, by decide⟩ ⟨by decide, by decide⟩ (by decide) ?_
                refine z_iload_n C hl 2 rfl dX8_faultOfPlan_151 ?_
                refine z_iconst C dX8_faultOfPlan_152 ?_
                refine z_icmpT_ne C 170 dX8_faultOfPlan_153 (by decide) ⟨by decide, by decide⟩ ⟨by decide, by decide⟩ (by decide) ?_
                refine z_iload_n C hl 2 rfl dX8_faultOfPlan_170 ?_
                refine z_iconst C dX8_faultOfPlan_171 ?_
                refine z_icmpF_ne C 191 dX8_faultOfPlan_172 (by decide) ⟨by decide, by decide⟩ ⟨by decide, by decide⟩ (by decide) ?_
                refine z_aload_n C hl 0 rfl dX8_faultOfPlan_175 ?_
                refine zg_X8_49 C hP dX8_faultOfPlan_176 ?_
                refine z_iload_n C hl 1 rfl dX8_faultOfPlan_179 ?_
                refine z_iload C hl 4 rfl dX8_faultOfPlan_180 ?_
                refine z_bipush C (by decide +kernel) dX8_faultOfPlan_182 ?_
                refine z_isub C dX8_faultOfPlan_184 ?_
                refine z_iconst C dX8_faultOfPlan_185 ?_
                refine z_iadd C dX8_faultOfPlan_186 ?_
                refine z_iast C hP hS ia_114 ⟨by omega, by omega⟩ dX8_faultOfPlan_187 (fun H locs hP hS => ?_)
                obtain ⟨t12, et12⟩ : ∃ z : zS, z = zU τ 114 k ((x11 - 97) + 4) := ⟨_, rfl⟩
                rw [← et12] at hP
                refine z_iinc C 1 [1, 0, 2, 3, 4, 5, 6] [(0, .ref (a 100)), (1, .int (iI (k + 1))), (2, .int (iI 3)), (3, .int (iI i)), (4, .int (iI x11)), (5, .int (iI 1)), (6, .int (iI 1))] hl rfl (by decide) rfl dX8_faultOfPlan_188 (fun ls hl => ?_)
                refine z_iload_n C hl 2 rfl dX8_faultOfPlan_191 ?_
                refine z_iconst C dX8_faultOfPlan_192 ?_
                refine z_icmpF_ne C 200 dX8_faultOfPlan_193 (by decide) ⟨by decide, by decide⟩ ⟨by decide, by decide⟩ (by decide) ?_
                refine z_iconst C dX8_faultOfPlan_196 ?_
                refine z_goto C 223 dX8_faultOfPlan_197 (by decide) ?_
                refine z_istore_n C [1, 2, 0, 3, 4, 5, 6] [(0, .ref (a 100)), (1, .int (iI (k + 1))), (2, .int (iI 0)), (3, .int (iI i)), (4, .int (iI x11)), (5, .int (iI 1)), (6, .int (iI 1))] hl (by decide) rfl dX8_faultOfPlan_223 (fun ls hl => ?_)
                refine z_iinc C 3 [1, 2, 3, 0, 4, 5, 6] [(0, .ref (a 100)), (1, .int (iI (k + 1))), (2, .int (iI 0)), (3, .int (iI (i + 1))), (4, .int (iI x11)), (5, .int (iI 1)), (6, .int (iI 1))] hl rfl (by decide) rfl dX8_faultOfPlan_224 (fun ls hl => ?_)
                refine z_goto C 6 dX8_faultOfPlan_227 (by decide) ?_
                exact ih_6 (k + 1) 0 (i + 1) t12 H locs hP hS ls (by omega) (by omega) (by omega) (by exact ⟨fun h => (by first | (exfalso; omega) | (simp [et12, zU]; omega)), fun h => (by first | (exfalso; omega) | (simp [et12, zU]; omega)), fun h => (by first | (exfalso; omega) | (simp [et12, zU]; omega))⟩) (by intro j h1 h2; first | (have hd := iD j h1 (by omega); have hjk : j ≠ k := (by omega); simp [et12, zU, hjk]; exact hd) | (exact if hj : j = k then (by subst hj; simp [et12, zU]; omega) else (by have hd := iD j h1 (by omega); simp [et12, zU, hj]; exact hd))) (by intro k hk; exact (by rw [et12, zU_cell (by omega), iF k (by omega)])) (by first | exact iv | (rw [iv, mRd_s _ _ _ (by omega), if_pos (by omega), if_pos (by omega), if_pos (by omega)])) (by omega) (lv_sub hl [0, 1, 2, 3] rfl)
              · rw [show (if 97 ≤ x11 ∧ x11 ≤ 103 then (1 : Int) else 0) = 0 from if_neg b_85]
                refine z_ifT_eq C 95 dX8_faultOfPlan_88 (by decide) ⟨by decide, by decide⟩ (by decide) ?_
                refine z_iconst C dX8_faultOfPlan_95 ?_
                refine z_istore C [1, 2, 3, 4, 5, 6, 0] [(0, .ref (a 100)), (1, .int (iI k)), (2, .int (iI 3)), (3, .int (iI i)), (4, .int (iI x11)), (5, .int (iI 1)), (6, .int (iI 0))] hl (by decide) rfl dX8_faultOfPlan_96 (fun ls hl => ?_)
                refine z_iload C hl 6 rfl dX8_faultOfPlan_98 ?_
                refine z_ifF_ne C 105 dX8_faultOfPlan_100 (by decide) ⟨by decide, by decide⟩ (by decide) ?_
                refine z_iload_n C hl 3 rfl dX8_faultOfPlan_103 ?_
                exact z_retQi C hP hS hr hlocks rfl (by exact ⟨(by first | (rw [iv, mRd_s _ _ _ (by omega)]; first | (rw [if_neg (by omega)]; omega) | (rw [if_pos (by omega), if_neg (by omega)]; omega) | (rw [if_pos (by omega), if_pos (by omega), if_neg (by omega)]; omega)) | (rw [iv, show (σ 100 11 - k).toNat = 0 from (by omega)]; unfold mRd; rw [show σ 100 11 = k from (by omega)]; first | (rw [if_pos (by omega)]; omega) | (rw [if_neg (by omega)]))), (fun k hk => (by rw [iF k (by omega)])), fun h => (by exfalso; omega)⟩) dX8_faultOfPlan_104
          · rw [show (if 48 ≤ x11 ∧ x11 ≤ 52 then (1 : Int) else 0) = 0 from if_neg b_31]
            refine z_istore C [1, 2, 3, 4, 5, 0] [(0, .ref (a 100)), (1, .int (iI k)), (2, .int (iI 3)), (3, .int (iI i)), (4, .int (iI x11)), (5, .int (iI 0))] hl (by decide) rfl dX8_faultOfPlan_34 (fun ls hl => ?_)
            refine z_iload_n C hl 1 rfl dX8_faultOfPlan_36 ?_
            refine z_aload_n C hl 0 rfl dX8_faultOfPlan_37 ?_
            refine zg_X8_81 C hP dX8_faultOfPlan_38 ?_
            rw [show τ 100 11 = σ 100 11 from by rw [iF 100 (by omega)]]
            refine z_icmp_ge C 95 dX8_faultOfPlan_41 (by decide) ⟨by omega, by omega⟩ ⟨by omega, by omega⟩ (fun c_41 => ?_) (fun c_41 => ?_)
            · refine z_iconst C dX8_faultOfPlan_95 ?_
              refine z_istore C [1, 2, 3, 4, 5, 6, 0] [(0, .ref (a 100)), (1, .int (iI k)), (2, .int (iI 3)), (3, .int (iI i)), (4, .int (iI x11)), (5, .int (iI 0)), (6, .int (iI 0))] hl (by decide) rfl dX8_faultOfPlan_96 (fun ls hl => ?_)
              refine z_iload C hl 6 rfl dX8_faultOfPlan_98 ?_
              refine z_ifF_ne C 105 dX8_faultOfPlan_100 (by decide) ⟨by decide, by decide⟩ (by decide) ?_
              refine z_iload_n C hl 3 rfl dX8_faultOfPlan_103 ?_
              exact z_retQi C hP hS hr hlocks rfl (by exact ⟨(by first | (rw [iv, mRd_s _ _ _ (by omega)]; first | (rw [if_neg (by omega)]; omega) | (rw [if_pos (by omega), if_neg (by omega)]; omega) | (rw [if_pos (by omega), if_pos (by omega), if_neg (by omega)]; omega)) | (rw [iv, show (σ 100 11 - k).toNat = 0 from (by omega)]; unfold mRd; rw [show σ 100 11 = k from (by omega)]; first | (rw [if_pos (by omega)]; omega) | (rw [if_neg (by omega)]))), (fun k hk => (by rw [iF k (by omega)])), fun h => (by exfalso; omega)⟩) dX8_faultOfPlan_104
            · refine z_iload_n C hl 2 rfl dX8_faultOfPlan_44 ?_
              refine z_ifT_ne C 63 dX8_faultOfPlan_45 (by decide) ⟨by decide, by decide⟩ (by decide) ?_
              refine z_iload_n C hl 2 rfl dX8_faultOfPlan_63 ?_
              refine z_iconst C dX8_faultOfPlan_64 ?_
              refine z_icmpT_ge C 76 dX8_faultOfPlan_65 (by decide) ⟨by decide, by decide⟩ ⟨by decide, by decide⟩ (by decide) ?_
              refine z_iload C hl 4 rfl dX8_faultOfPlan_76 ?_
              refine z_i2l C ⟨by omega, by omega⟩ dX8_faultOfPlan_78 ?_
              refine z_ldc2 C (z := 97) wd_282 (by decide +kernel) dX8_faultOfPlan_79 ?_
              refine z_ldc2 C (z := 103) wd_283 (by decide +kernel) dX8_faultOfPlan_82 ?_
              refine z_sSi C hP (As := [.long (jI x11), .long (jI 97), .long (jI 103)]) lk_X8_86 (c_X8_in hI τ x11 97 103 ⟨by omega, by omega⟩ ⟨by decide, by decide⟩ ⟨by decide, by decide⟩) rfl hl.1 rfl (Nat.le_of_ble_eq_true rfl) ⟨Nat.le_of_ble_eq_true rfl, Nat.le_of_ble_eq_true rfl⟩ ⟨Nat.zero_le _, Nat.zero_le _⟩ dX8_faultOfPlan_85 ?_
              by_cases b_85 : 97 ≤ x11 ∧ x11 ≤ 103
              · rw [show (if 97 ≤ x11 ∧ x11 ≤ 103 then (1 : Int) else 0) = 1 from if_pos b_85]
                refine z_ifF_eq C 95 dX8_faultOfPlan_88 (by decide) ⟨by decide, by decide⟩ (by decide) ?_
                refine z_iconst C dX8_faultOfPlan_91 ?_
                refine z_goto C 96 dX8_faultOfPlan_92 (by decide) ?_
                refine z_istore C [1, 2, 3, 4, 5, 6, 0] [(0, .ref (a 100)), (1, .int (iI k)), (2, .int (iI 3)), (3, .int (iI i)), (4, .int (iI x11)), (5, .int (iI 0)), (6, .int (iI 1))] hl (by decide) rfl dX8_faultOfPlan_96 (fun ls hl => ?_)
                refine z_iload C hl 6 rfl dX8_faultOfPlan_98 ?_
                refine z_ifT_ne C 105 dX8_faultOfPlan_100 (by decide) ⟨by decide, by decide⟩ (by decide) ?_
                refine z_iload_n C hl 2 rfl dX8_faultOfPlan_105 ?_
                refine z_ifT_ne C 127 dX8_faultOfPlan_106 (by decide) ⟨by decide, by decide⟩ (by decide) ?_
                refine z_iload_n C hl 2 rfl dX8_faultOfPlan_127 ?_
                refine z_iconst C dX8_faultOfPlan_128 ?_
                refine z_icmpT_ge C 151 dX8_faultOfPlan_129 (by decide) ⟨by decide, by decide⟩ ⟨by decide, by decide⟩ (by decide) ?_
                refine z_iload_n C hl 2 rfl dX8_faultOfPlan_151 ?_
                refine z_iconst C dX8_faultOfPlan_152 ?_
                refine z_icmpT_ne C 170 dX8_faultOfPlan_153 (by decide) ⟨by decide, by decide⟩ ⟨by decide, by decide⟩ (by decide) ?_
                refine z_iload_n C hl 2 rfl dX8_faultOfPlan_170 ?_
                refine z_iconst C dX8_faultOfPlan_171 ?_
                refine z_icmpF_ne C 191 dX8_faultOfPlan_172 (by decide) ⟨by decide, by decide⟩ ⟨by decide, by decide⟩ (by decide) ?_
                refine z_aload_n C hl 0 rfl dX8_faultOfPlan_175 ?_
                refine zg_X8_49 C hP dX8_faultOfPlan_176 ?_
                refine z_iload_n C hl 1 rfl dX8_faultOfPlan_179 ?_
                refine z_iload C hl 4 rfl dX8_faultOfPlan_180 ?_
                refine z_bipush C (by decide +kernel) dX8_faultOfPlan_182 ?_
                refine z_isub C dX8_faultOfPlan_184 ?_
                refine z_iconst C dX8_faultOfPlan_185 ?_
                refine z_iadd C dX8_faultOfPlan_186 ?_
                refine z_iast C hP hS ia_114 ⟨by omega, by omega⟩ dX8_faultOfPlan_187 (fun H locs hP hS => ?_)
                obtain ⟨t13, et13⟩ : ∃ z : zS, z = zU τ 114 k ((x11 - 97) + 4) := ⟨_, rfl⟩
                rw [← et13] at hP
                refine z_iinc C 1 [1, 0, 2, 3, 4, 5, 6] [(0, .ref (a 100)), (1, .int (iI (k + 1))), (2, .int (iI 3)), (3, .int (iI i)), (4, .int (iI x11)), (5, .int (iI 0)), (6, .int (iI 1))] hl rfl (by decide) rfl dX8_faultOfPlan_188 (fun ls hl => ?_)
                refine z_iload_n C hl 2 rfl dX8_faultOfPlan_191 ?_
                refine z_iconst C dX8_faultOfPlan_192 ?_
                refine z_icmpF_ne C 200 dX8_faultOfPlan_193 (by decide) ⟨by decide, by decide⟩ ⟨by decide, by decide⟩ (by decide) ?_
                refine z_iconst C dX8_faultOfPlan_196 ?_
                refine z_goto C 223 dX8_faultOfPlan_197 (by decide) ?_
                refine z_istore_n C [1, 2, 0, 3, 4, 5, 6] [(0, .ref (a 100)), (1, .int (iI (k + 1))), (2, .int (iI 0)), (3, .int (iI i)), (4, .int (iI x11)), (5, .int (iI 0)), (6, .int (iI 1))] hl (by decide) rfl dX8_faultOfPlan_223 (fun ls hl => ?_)
                refine z_iinc C 3 [1, 2, 3, 0, 4, 5, 6] [(0, .ref (a 100)), (1, .int (iI (k + 1))), (2, .int (iI 0)), (3, .int (iI (i + 1))), (4, .int (iI x11)), (5, .int (iI 0)), (6, .int (iI 1))] hl rfl (by decide) rfl dX8_faultOfPlan_224 (fun ls hl => ?_)
                refine z_goto C 6 dX8_faultOfPlan_227 (by decide) ?_
                exact ih_6 (k + 1) 0 (i + 1) t13 H locs hP hS ls (by omega) (by omega) (by omega) (by exact ⟨fun h => (by first | (exfalso; omega) | (simp [et13, zU]; omega)), fun h => (by first | (exfalso; omega) | (simp [et13, zU]; omega)), fun h => (by first | (exfalso; omega) | (simp [et13, zU]; omega))⟩) (by intro j h1 h2; first | (have hd := iD j h1 (by omega); have hjk : j ≠ k := (by omega); simp [et13, zU, hjk]; exact hd) | (exact if hj : j = k then (by subst hj; simp [et13, zU]; omega) else (by have hd := iD j h1 (by omega); simp [et13, zU, hj]; exact hd))) (by intro k hk; exact (by rw [et13, zU_cell (by omega), iF k (by omega)])) (by first | exact iv | (rw [iv, mRd_s _ _ _ (by omega), if_pos (by omega), if_pos (by omega), if_pos (by omega)])) (by omega) (lv_sub hl [0, 1, 2, 3] rfl)
              · rw [show (if 97 ≤ x11 ∧ x11 ≤ 103 then (1 : Int) else 0) = 0 from if_neg b_85]
                refine z_ifT_eq C 95 dX8_faultOfPlan_88 (by decide) ⟨by decide, by decide⟩ (by decide) ?_
                refine z_iconst C dX8_faultOfPlan_95 ?_
                refine z_istore C [1, 2, 3, 4, 5, 6, 0] [(0, .ref (a 100)), (1, .int (iI k)), (2, .int (iI 3)), (3, .int (iI i)), (4, .int (iI x11)), (5, .int (iI 0)), (6, .int (iI 0))] hl (by decide) rfl dX8_faultOfPlan_96 (fun ls hl => ?_)
                refine z_iload C hl 6 rfl dX8_faultOfPlan_98 ?_
                refine z_ifF_ne C 105 dX8_faultOfPlan_100 (by decide) ⟨by decide, by decide⟩ (by decide) ?_
                refine z_iload_n C hl 3 rfl dX8_faultOfPlan_103 ?_
                exact z_retQi C hP hS hr hlocks rfl (by exact ⟨(by first | (rw [iv, mRd_s _ _ _ (by omega)]; first | (rw [if_neg (by omega)]; omega) | (rw [if_pos (by omega), if_neg (by omega)]; omega) | (rw [if_pos (by omega), if_pos (by omega), if_neg (by omega)]; omega)) | (rw [iv, show (σ 100 11 - k).toNat = 0 from (by omega)]; unfold mRd; rw [show σ 100 11 = k from (by omega)]; first | (rw [if_pos (by omega)]; omega) | (rw [if_neg (by omega)]))), (fun k hk => (by rw [iF k (by omega)])), fun h => (by exfalso; omega)⟩) dX8_faultOfPlan_104
  exact L_6 _ 0 0 0 σ _ _ hP hS ls (by omega) (by omega) (by exact Or.inl ⟨rfl, rfl⟩) (by exact ⟨fun h => (by omega), fun h => (by omega), fun h => (by omega)⟩) (by intro j h1 h2; omega) (by intro k hk; rfl) (by rw [show σ 100 11 - 0 = σ 100 11 from (by omega)]) (Nat.lt_succ_self _) (lv_sub hl [0, 1, 2, 3] rfl)

set_option maxRecDepth 20000 in
set_option maxHeartbeats 4000000 in
theorem c_X8_fault {l : Launch} {D : va_G} {Y : Nat → ClassId} {a : Int → Nat} (hI : zI a) (σ : zS) (hw : Int) (r1 : R3 hw) (hnm : 1 ≤ σ 100 11 ∧ σ 100 11 ≤ 24) (hpm : 0 ≤ σ 100 18 ∧ σ 100 18 ≤ 110) (hpq : ∀ i : Int, 0 ≤ i → i < 110 → 0 ≤ σ 110 i ∧ σ 110 i ≤ 126) : zMet l yX8_fault cX8_fault 2 (some .int) 3 (zPc D Y a σ [.ref (a 100), .int (iI hw)]) (zQi D Y a (fun r τ => (hw = 0 → r = mFWg (σ 110) (σ 100 18) 110 0) ∧ (hw = 1 → r = mRd (mSgM σ) (σ 100 11) (σ 100 18) (σ 100 11).toNat 0) ∧ (hw ≠ 0 → hw ≠ 1 → r = -2) ∧ (∀ k : Int, k < 111 ∨ 114 < k → τ k = σ k))) (inA a) := by
  refine z_start rfl (Nat.le_of_ble_eq_true rfl) hI ?_
  intro p e s m below meth c ls C hr hlocks hl hP
  have hS : va_S (inA a) s.heap s.heap [] := va_S.rf
  have hl : lv_has ls 2 [(0, .ref (a 100)), (1, .int (iI hw))] := hl
  skip
  refine z_iload_n C hl 1 rfl dX8_fault_0 ?_
  refine z_if_ne C 11 dX8_fault_1 (by decide) r1 (fun c_1 => ?_) (fun c_1 => ?_)
  · refine z_iload_n C hl 1 rfl dX8_fault_11 ?_
    refine z_iconst C dX8_fault_12 ?_
    refine z_icmp_ne C 23 dX8_fault_13 (by decide) r1 ⟨by omega, by omega⟩ (fun c_13 => ?_) (fun c_13 => ?_)
    · refine z_bipush C (by decide +kernel) dX8_fault_23 ?_
      exact z_retQi C hP hS hr hlocks rfl (by first | exact ⟨fun _ => rfl, fun h => (by exfalso; omega), fun h => (by exfalso; omega), fun _ _ => rfl⟩ | exact ⟨fun h => (by exfalso; omega), fun _ => hp17.1, fun _ h => (by exfalso; omega), hp17.2.1⟩ | exact ⟨fun h => (by exfalso; omega), fun h => (by exfalso; omega), fun _ _ => rfl, fun _ _ => rfl⟩) dX8_fault_25
    · refine z_aload_n C hl 0 rfl dX8_fault_16 ?_
      refine z_vQi hS C hP (As := []) lk_X8_142 (c_X8_faultOfPlan hI σ  hnm hpm hpq) ob_100 rfl rfl rfl hl.1 rfl (Nat.le_of_ble_eq_true rfl) ⟨Nat.le_of_ble_eq_true rfl, Nat.le_of_ble_eq_true rfl⟩ ⟨Nat.zero_le _, Nat.zero_le _⟩ dX8_fault_17 (fun r1 t2 H locs hp17 hP hS => ?_)
      refine z_goto C 25 dX8_fault_20 (by decide) ?_
      exact z_retQi C hP hS hr hlocks rfl (by first | exact ⟨fun _ => rfl, fun h => (by exfalso; omega), fun h => (by exfalso; omega), fun _ _ => rfl⟩ | exact ⟨fun h => (by exfalso; omega), fun _ => hp17.1, fun _ h => (by exfalso; omega), hp17.2.1⟩ | exact ⟨fun h => (by exfalso; omega), fun h => (by exfalso; omega), fun _ _ => rfl, fun _ _ => rfl⟩) dX8_fault_25
  · refine z_aload_n C hl 0 rfl dX8_fault_4 ?_
    refine z_vSi C hP (As := []) lk_X8_138 (c_X8_faultOfWay hI σ  hpm hpq) ob_100 rfl rfl rfl hl.1 rfl (Nat.le_of_ble_eq_true rfl) ⟨Nat.le_of_ble_eq_true rfl, Nat.le_of_ble_eq_true rfl⟩ ⟨Nat.zero_le _, Nat.zero_le _⟩ dX8_fault_5 ?_
    refine z_goto C 25 dX8_fault_8 (by decide) ?_
    exact z_retQi C hP hS hr hlocks rfl (by first | exact ⟨fun _ => rfl, fun h => (by exfalso; omega), fun h => (by exfalso; omega), fun _ _ => rfl⟩ | exact ⟨fun h => (by exfalso; omega), fun _ => hp17.1, fun _ h => (by exfalso; omega), hp17.2.1⟩ | exact ⟨fun h => (by exfalso; omega), fun h => (by exfalso; omega), fun _ _ => rfl, fun _ _ => rfl⟩) dX8_fault_25
