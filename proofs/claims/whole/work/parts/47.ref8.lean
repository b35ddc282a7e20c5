set_option maxRecDepth 20000 in
set_option maxHeartbeats 4000000 in
theorem c_X8_tread {l : Launch} {D : va_G} {Y : Nat → ClassId} {a : Int → Nat} (hI : zI a) (σ : zS) (rr ef b : Int) (hr1 : R3 rr) (hr2 : R3 ef) (hr3 : R3 b) (hrb : 0 ≤ σ 100 0 ∧ σ 100 0 ≤ 15) (hrd : ∀ r : Int, 0 ≤ r → r ≤ 3 → (0 ≤ σ 101 r ∧ σ 101 r ≤ 20) ∧ (0 ≤ σ 102 r ∧ σ 102 r ≤ 10) ∧ (0 ≤ σ 103 r ∧ σ 103 r ≤ 9)) : zMet l yX8_tread cX8_tread 4 (some .int) 3 (zPc D Y a σ [.ref (a 100), .int (iI rr), .int (iI ef), .int (iI b)]) (zSi (if 0 ≤ rr ∧ rr ≤ 3 ∧ mBit (σ 100 0) rr = 1 then (if (0 ≤ ef ∧ ef ≤ 4) ∧ 4 ≤ b ∧ b ≤ 10 then mTread (σ 101 rr) (σ 102 rr) ef b else -2) else -1)) zNo := by
  refine z_start rfl (Nat.le_of_ble_eq_true rfl) hI ?_
  intro p e s m below meth c ls C hr hlocks hl hP
  have hl : lv_has ls 4 [(0, .ref (a 100)), (1, .int (iI rr)), (2, .int (iI ef)), (3, .int (iI b))] := hl
  refine z_aload_n C hl 0 rfl dX8_tread_0 ?_
  refine z_iload_n C hl 1 rfl dX8_tread_1 ?_
  refine z_vSi C hP (As := [.int (iI rr)]) lk_X8_110 (c_X8_isThere hI σ rr hr1 hrb) ob_100 rfl rfl rfl hl.1 rfl (Nat.le_of_ble_eq_true rfl) ⟨Nat.le_of_ble_eq_true rfl, Nat.le_of_ble_eq_true rfl⟩ ⟨Nat.zero_le _, Nat.zero_le _⟩ dX8_tread_2 ?_
  by_cases b_2 : 0 ≤ rr ∧ rr ≤ 3 ∧ mBit (σ 100 0) rr = 1
  · rw [show (if 0 ≤ rr ∧ rr ≤ 3 ∧ mBit (σ 100 0) rr = 1 then (1 : Int) else 0) = 1 from if_pos b_2]
    refine z_ifT_ne C 10 dX8_tread_5 (by decide) ⟨by decide, by decide⟩ (by decide) ?_
    refine z_iload_n C hl 2 rfl dX8_tread_10 ?_
    refine z_sSi C hP (As := [.int (iI ef)]) lk_X8_149 (c_X8_isEffort hI σ ef hr2) rfl hl.1 rfl (Nat.le_of_ble_eq_true rfl) ⟨Nat.le_of_ble_eq_true rfl, Nat.le_of_ble_eq_true rfl⟩ ⟨Nat.zero_le _, Nat.zero_le _⟩ dX8_tread_11 ?_
    by_cases b_11 : 0 ≤ ef ∧ ef ≤ 4
    · rw [show (if 0 ≤ ef ∧ ef ≤ 4 then (1 : Int) else 0) = 1 from if_pos b_11]
      refine z_ifF_eq C 34 dX8_tread_14 (by decide) ⟨by decide, by decide⟩ (by decide) ?_
      refine z_iload_n C hl 3 rfl dX8_tread_17 ?_
      refine z_sSi C hP (As := [.int (iI b)]) lk_X8_99 (c_X8_isBeat hI σ b hr3) rfl hl.1 rfl (Nat.le_of_ble_eq_true rfl) ⟨Nat.le_of_ble_eq_true rfl, Nat.le_of_ble_eq_true rfl⟩ ⟨Nat.zero_le _, Nat.zero_le _⟩ dX8_tread_18 ?_
      by_cases b_18 : 4 ≤ b ∧ b ≤ 10
      · rw [show (if 4 ≤ b ∧ b ≤ 10 then (1 : Int) else 0) = 1 from if_pos b_18]
        refine z_ifF_eq C 34 dX8_tread_21 (by decide) ⟨by decide, by decide⟩ (by decide) ?_
        refine z_aload_n C hl 0 rfl dX8_tread_24 ?_
        refine z_iload_n C hl 1 rfl dX8_tread_25 ?_
        refine z_iload_n C hl 2 rfl dX8_tread_26 ?_
        refine z_iload_n C hl 3 rfl dX8_tread_27 ?_
        refine z_vSi C hP (As := [.int (iI rr), .int (iI ef), .int (iI b)]) lk_X8_152 (c_X8_treadOf hI σ rr ef b ⟨by omega, by omega⟩ (hrd rr (by omega) (by omega)).1 (hrd rr (by omega) (by omega)).2.1 ⟨by omega, by omega⟩ ⟨by omega, by omega⟩) ob_100 rfl rfl rfl hl.1 rfl (Nat.le_of_ble_eq_true rfl) ⟨Nat.le_of_ble_eq_true rfl, Nat.le_of_ble_eq_true rfl⟩ ⟨Nat.zero_le _, Nat.zero_le _⟩ dX8_tread_28 ?_
        refine z_goto C 36 dX8_tread_31 (by decide) ?_
        exact z_retSi C hr hlocks rfl (by subst_vars; (repeat' split) <;> first | rfl | (exfalso; omega)) dX8_tread_36
      · rw [show (if 4 ≤ b ∧ b ≤ 10 then (1 : Int) else 0) = 0 from if_neg b_18]
        refine z_ifT_eq C 34 dX8_tread_21 (by decide) ⟨by decide, by decide⟩ (by decide) ?_
        refine z_bipush C (by decide +kernel) dX8_tread_34 ?_
        exact z_retSi C hr hlocks rfl (by subst_vars; (repeat' split) <;> first | rfl | (exfalso; omega)) dX8_tread_36
    · rw [show (if 0 ≤ ef ∧ ef ≤ 4 then (1 : Int) else 0) = 0 from if_neg b_11]
      refine z_ifT_eq C 34 dX8_tread_14 (by decide) ⟨by decide, by decide⟩ (by decide) ?_
      refine z_bipush C (by decide +kernel) dX8_tread_34 ?_
      exact z_retSi C hr hlocks rfl (by subst_vars; (repeat' split) <;> first | rfl | (exfalso; omega)) dX8_tread_36
  · rw [show (if 0 ≤ rr ∧ rr ≤ 3 ∧ mBit (σ 100 0) rr = 1 then (1 : Int) else 0) = 0 from if_neg b_2]
    refine z_ifF_ne C 10 dX8_tread_5 (by decide) ⟨by decide, by decide⟩ (by decide) ?_
    refine z_iconst C dX8_tread_8 ?_
    exact z_retSi C hr hlocks rfl (by subst_vars; (repeat' split) <;> first | rfl | (exfalso; omega)) dX8_tread_9

set_option maxRecDepth 20000 in
set_option maxHeartbeats 4000000 in
theorem c_X8_rideAll {l : Launch} {D : va_G} {Y : Nat → ClassId} {a : Int → Nat} (hI : zI a) (σ : zS)  (hnm : 1 ≤ σ 100 11 ∧ σ 100 11 ≤ 24) (hse : (0 ≤ σ 100 5 ∧ σ 100 5 ≤ 3) ∧ (0 ≤ σ 100 6 ∧ σ 100 6 ≤ 3)) (hrd : ∀ r : Int, 0 ≤ r → r ≤ 3 → (0 ≤ σ 101 r ∧ σ 101 r ≤ 20) ∧ (0 ≤ σ 102 r ∧ σ 102 r ≤ 10) ∧ (0 ≤ σ 103 r ∧ σ 103 r ≤ 9)) (hho : 5 ≤ σ 100 7 ∧ σ 100 7 ≤ 20) (hpz : 0 ≤ σ 100 8 ∧ σ 100 8 ≤ 99) (hpl : ∀ i : Int, 0 ≤ i → i < σ 100 11 → ((σ 111 i = 0 ∨ σ 111 i = 1) ∧ (0 ≤ σ 112 i ∧ σ 112 i ≤ 4) ∧ (0 ≤ σ 113 i ∧ σ 113 i ≤ 4) ∧ (4 ≤ σ 114 i ∧ σ 114 i ≤ 10)) ∧ 0 ≤ σ 105 i ∧ σ 105 i ≤ 200) : zMet l yX8_rideAll cX8_rideAll 1 none 5 (zPc D Y a σ [.ref (a 100)]) (zQv D Y a (fun τ => jSame σ τ ∧ (jOk σ τ (σ 100 11) ∨ ∃ q : Int, q < σ 100 11 ∧ jBad σ τ q))) (inA a) := by
  refine z_start rfl (Nat.le_of_ble_eq_true rfl) hI ?_
  intro p e s m below meth c ls C hr hlocks hl hP
  have hS : va_S (inA a) s.heap s.heap [] := va_S.rf
  have hl : lv_has ls 1 [(0, .ref (a 100))] := hl
  skip
  refine z_aload_n C hl 0 rfl dX8_rideAll_0 ?_
  refine z_aload_n C hl 0 rfl dX8_rideAll_1 ?_
  refine zg_X8_81 C hP dX8_rideAll_2 ?_
  refine z_iconst C dX8_rideAll_5 ?_
  refine z_isub C dX8_rideAll_6 ?_
  refine z_vQv hS C hP (As := [.int (iI ((σ 100 11) - 1))]) lk_X8_203 (c_X8_ride hI σ ((σ 100 11) - 1) ⟨by omega, by omega⟩ hse hrd hho hpz (fun i h1 h2 => hpl i h1 (by omega))) ob_100 rfl rfl rfl hl.1 rfl (Nat.le_of_ble_eq_true rfl) ⟨Nat.le_of_ble_eq_true rfl, Nat.le_of_ble_eq_true rfl⟩ ⟨Nat.zero_le _, Nat.zero_le _⟩ dX8_rideAll_7 (fun t2 H locs hp7 hP hS => ?_)
  exact z_retQv C hP hS hr hlocks (by (refine ⟨hp7.1, ?_⟩; rcases hp7.2 with h | ⟨q, h1, h2⟩; (rw [show σ 100 11 - 1 + 1 = σ 100 11 from (by omega)] at h; exact Or.inl h); exact Or.inr ⟨q, (by omega), h2⟩)) dX8_rideAll_10
