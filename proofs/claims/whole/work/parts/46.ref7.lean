theorem jSame_b (σ : zS) : jSame σ (mBegM σ) := jSame_z (jSame_z (jSame_z (jSame_z (jSame_z (jSame_z (jSame_z (jSame_z (fun _ _ _ => rfl) (by decide)) (by decide)) (by decide)) (by decide)) (by decide)) (by decide)) (by decide)) (by decide)
theorem jOk_0 (σ : zS) : jOk σ (mBegM σ) 0 := ⟨by simp [mBegM, zU], by simp [mBegM, zU], by simp [mBegM, zU]; rfl, by simp [mBegM, zU]; rfl, by simp [mBegM, zU]; rfl, by simp [mBegM, zU]; rfl, by simp [mBegM, zU]; rfl, by simp [mBegM, zU]; rfl, fun j h1 h2 => by omega⟩
set_option maxRecDepth 20000 in
set_option maxHeartbeats 4000000 in
theorem c_X8_ride {l : Launch} {D : va_G} {Y : Nat → ClassId} {a : Int → Nat} (hI : zI a) (σ : zS) (u : Int) (hu : -1 ≤ u ∧ u < 24) (hse : (0 ≤ σ 100 5 ∧ σ 100 5 ≤ 3) ∧ (0 ≤ σ 100 6 ∧ σ 100 6 ≤ 3)) (hrd : ∀ r : Int, 0 ≤ r → r ≤ 3 → (0 ≤ σ 101 r ∧ σ 101 r ≤ 20) ∧ (0 ≤ σ 102 r ∧ σ 102 r ≤ 10) ∧ (0 ≤ σ 103 r ∧ σ 103 r ≤ 9)) (hho : 5 ≤ σ 100 7 ∧ σ 100 7 ≤ 20) (hpz : 0 ≤ σ 100 8 ∧ σ 100 8 ≤ 99) (hpl : ∀ i : Int, 0 ≤ i → i < u + 1 → ((σ 111 i = 0 ∨ σ 111 i = 1) ∧ (0 ≤ σ 112 i ∧ σ 112 i ≤ 4) ∧ (0 ≤ σ 113 i ∧ σ 113 i ≤ 4) ∧ (4 ≤ σ 114 i ∧ σ 114 i ≤ 10)) ∧ 0 ≤ σ 105 i ∧ σ 105 i ≤ 200) : zMet l yX8_ride cX8_ride 3 none 4 (zPc D Y a σ [.ref (a 100), .int (iI u)]) (zQv D Y a (fun τ => jSame σ τ ∧ (jOk σ τ (u + 1) ∨ ∃ q : Int, q ≤ u ∧ jBad σ τ q))) (inA a) := by
  refine z_start rfl (Nat.le_of_ble_eq_true rfl) hI ?_
  intro p e s m below meth c ls C hr hlocks hl hP
  have hS : va_S (inA a) s.heap s.heap [] := va_S.rf
  have hl : lv_has ls 3 [(0, .ref (a 100)), (1, .int (iI u))] := hl
  skip
  refine z_aload_n C hl 0 rfl dX8_ride_0 ?_
  refine z_vQv hS C hP (As := []) lk_X8_196 (c_X8_begin hI σ  hse) ob_100 rfl rfl rfl hl.1 rfl (Nat.le_of_ble_eq_true rfl) ⟨Nat.le_of_ble_eq_true rfl, Nat.le_of_ble_eq_true rfl⟩ ⟨Nat.zero_le _, Nat.zero_le _⟩ dX8_ride_1 (fun t2 H locs hp1 hP hS => ?_)
  refine z_iconst C dX8_ride_4 ?_
  refine z_istore_n C [1, 2, 0] [(0, .ref (a 100)), (1, .int (iI u)), (2, .int (iI 0))] hl (by decide) rfl dX8_ride_5 (fun ls hl => ?_)
  have L_6 : ∀ (n : Nat) (k : Int) (τ : zS) (H : Heap) (locs : List Loc) (hP : GP D Y a τ H) (hS : va_S (inA a) s.heap H locs) (ls : Array Slot), (0 ≤ k ∧ k ≤ u + 1) → (jSame σ τ) → (jOk σ τ k ∨ (1 ≤ k ∧ jBad σ τ (k - 1))) → ((u + 1 - k).toNat) < n → lv_has ls 3 [(0, .ref (a 100)), (1, .int (iI u)), (2, .int (iI k))] → W p l e (zR 4) s m ([.ref (a 100), .int (iI u)] : List Value).toArray below meth c H locs 0 0 (MQ below (zQv D Y a (fun τ => jSame σ τ ∧ (jOk σ τ (u + 1) ∨ ∃ q : Int, q ≤ u ∧ jBad σ τ q))) ([.ref (a 100), .int (iI u)] : List Value).toArray s 0 0 (inA a)) (F0 m 6 ls []) := by
    intro n
    induction n with
    | zero =>
      intros; omega
    | succ n ih_6 =>
      intro k τ H locs hP hS ls ik iS iv hm hl
      have h23 : -6 ≤ τ 100 23 ∧ τ 100 23 ≤ 24 := by (rcases iv with h | h; have h0 := h.1; omega; have h0 := h.2.2.1; omega)
      refine z_iload_n C hl 2 rfl dX8_ride_6 ?_
      refine z_iload_n C hl 1 rfl dX8_ride_7 ?_
      refine z_icmp_gt C 29 dX8_ride_8 (by decide) ⟨by omega, by omega⟩ ⟨by omega, by omega⟩ (fun c_8 => ?_) (fun c_8 => ?_)
      · exact z_retQv C hP hS hr hlocks (by (refine ⟨iS, ?_⟩; rcases iv with h | h; (first | (exfalso; have h0 := h.1; omega) | (rw [show u + 1 = k from (by omega)]; exact Or.inl h)); exact Or.inr ⟨k - 1, (by omega), h.2⟩)) dX8_ride_29
      · refine z_aload_n C hl 0 rfl dX8_ride_11 ?_
        refine zg_X8_156 C hP dX8_ride_12 ?_
        refine z_if_ge C 29 dX8_ride_15 (by decide) ⟨by omega, by omega⟩ (fun c_15 => ?_) (fun c_15 => ?_)
        · exact z_retQv C hP hS hr hlocks (by (refine ⟨iS, ?_⟩; rcases iv with h | h; (first | (exfalso; have h0 := h.1; omega) | (rw [show u + 1 = k from (by omega)]; exact Or.inl h)); exact Or.inr ⟨k - 1, (by omega), h.2⟩)) dX8_ride_29
        · have hok : jOk σ τ k := by (rcases iv with h | h; exact h; have h0 := h.2.2.1; omega)
          have hbk := jOk_b hse hrd hho hpz (fun i h1 h2 => hpl i h1 (by omega)) (by omega) hok
          refine z_aload_n C hl 0 rfl dX8_ride_18 ?_
          refine z_iload_n C hl 2 rfl dX8_ride_19 ?_
          refine z_vQv hS C hP (As := [.int (iI k)]) lk_X8_199 (c_X8_rideOne hI τ k ⟨by omega, by omega⟩ (by rw [iS 100 5 (by omega), iS 100 6 (by omega)]; exact hse) (by rw [jSame_c iS (by decide : (101 : Int) ≠ 100), jSame_c iS (by decide : (102 : Int) ≠ 100), jSame_c iS (by decide : (103 : Int) ≠ 100)]; exact hrd) (by rw [iS 100 7 (by omega)]; exact hho) (by rw [iS 100 8 (by omega)]; exact hpz) (by rw [jSame_c iS (by decide : (111 : Int) ≠ 100), jSame_c iS (by decide : (112 : Int) ≠ 100), jSame_c iS (by decide : (113 : Int) ≠ 100), jSame_c iS (by decide : (114 : Int) ≠ 100)]; exact (hpl k (by omega) (by omega)).1) (by rw [jSame_c iS (by decide : (105 : Int) ≠ 100)]; exact (hpl k (by omega) (by omega)).2) hbk.1 hbk.2.1 hbk.2.2.1 hbk.2.2.2.1 hbk.2.2.2.2.1 hbk.2.2.2.2.2) ob_100 rfl rfl rfl hl.1 rfl (Nat.le_of_ble_eq_true rfl) ⟨Nat.le_of_ble_eq_true rfl, Nat.le_of_ble_eq_true rfl⟩ ⟨Nat.zero_le _, Nat.zero_le _⟩ dX8_ride_20 (fun t4 H locs hp20 hP hS => ?_)
          refine z_iinc C 2 [1, 2, 0] [(0, .ref (a 100)), (1, .int (iI u)), (2, .int (iI (k + 1)))] hl rfl (by decide) rfl dX8_ride_23 (fun ls hl => ?_)
          refine z_goto C 6 dX8_ride_26 (by decide) ?_
          exact ih_6 (k + 1) t4 H locs hP hS ls (by omega) (by exact (jStep ik.1 iS hok hp20).1) (by (rcases (jStep ik.1 iS hok hp20).2 with h | h; exact Or.inl h; exact Or.inr ⟨(by omega), (by rw [show k + 1 - 1 = k from (by omega)]; exact h)⟩)) (by omega) (lv_sub hl [0, 1, 2] rfl)
  exact L_6 _ 0 t2 _ _ hP hS ls (by omega) (by rw [hp1]; exact jSame_b σ) (by rw [hp1]; exact Or.inl (jOk_0 σ)) (Nat.lt_succ_self _) (lv_sub hl [0, 1, 2] rfl)
