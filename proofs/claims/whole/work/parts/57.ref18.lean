def jNoR (σ : zS) : Prop := ∀ i : Int, 0 ≤ i → i < σ 100 11 → mRst (mSgM σ) i = 0
def jPlR (σ ρ : zS) (k : Int) : Prop := jFr σ ρ ∧ ∀ i : Int, 0 ≤ i → i < σ 100 11 → ρ 111 i = (if i = k then 1 else 0) ∧ ρ 112 i = mEF (mSgM σ) i ∧ ρ 113 i = mEB (mSgM σ) i ∧ ρ 114 i = mBt (mSgM σ) i
def jGdR (σ : zS) (k : Int) : Prop := ∃ ρ : zS, jPlR σ ρ k ∧ ∀ j : Int, 0 ≤ j → j < σ 100 11 → jY ρ j = -6
def jBdR (σ : zS) (k : Int) : Prop := ∃ (ρ : zS) (q : Int), jPlR σ ρ k ∧ 0 ≤ q ∧ q < σ 100 11 ∧ jY ρ q ≠ -6
theorem jPlR_pl {σ ρ : zS} {k : Int} (hnm : 1 ≤ σ 100 11 ∧ σ 100 11 ≤ 24) (hk : jPl σ) (hp : jPlR σ ρ k) (hch : ∀ i : Int, 0 ≤ i → i < 24 → 0 ≤ σ 105 i ∧ σ 105 i ≤ 200) : ∀ i : Int, 0 ≤ i → i < σ 100 11 → ((ρ 111 i = 0 ∨ ρ 111 i = 1) ∧ (0 ≤ ρ 112 i ∧ ρ 112 i ≤ 4) ∧ (0 ≤ ρ 113 i ∧ ρ 113 i ≤ 4) ∧ (4 ≤ ρ 114 i ∧ ρ 114 i ≤ 10)) ∧ 0 ≤ ρ 105 i ∧ ρ 105 i ≤ 200 := fun i h1 h2 => by
  have o := mRd_ok (by omega) hk (fun i _ => mQ_b (mSgM σ) i) i h1 h2
  have d := hp.2 i h1 h2
  rw [d.1, d.2.1, d.2.2.1, d.2.2.2, hp.1 105 i (by omega) (by omega)]
  refine ⟨⟨?_, o.1, o.2.1, o.2.2⟩, hch i h1 (by omega)⟩
  split
  · exact Or.inr rfl
  · exact Or.inl rfl
theorem mSumP {f : Int → Int} : ∀ {n : Nat}, (∀ i : Int, 0 ≤ i → i < n → f i = 0 ∨ f i = 1) → mSum f n = 0 → ∀ i : Int, 0 ≤ i → i < n → f i = 0
  | 0, _, _ => fun i h1 h2 => by omega
  | n + 1, h, hs => fun i h1 h2 => by
    have hb := mSum_b (f := f) (A := 1) (n := n) (fun i h1 h2 => by have := h i h1 (by omega); omega)
    have hn := h n (by omega) (by omega)
    have e : mSum f (n + 1) = mSum f n + f n := rfl
    by_cases hi : i = n
    · rw [hi]; omega
    · exact mSumP (n := n) (fun i h1 h2 => h i h1 (by omega)) (by omega) i h1 (by omega)
theorem zU_ne {σ : zS} {k j v a b : Int} (h : ¬ (a = k ∧ b = j)) : zU σ k j v a b = σ a b := if_neg h
theorem mSumZ {f : Int → Int} : ∀ {n : Nat}, (∀ i : Int, 0 ≤ i → i < n → f i = 0) → mSum f n = 0
  | 0, _ => rfl
  | n + 1, h => by
    show mSum f n + f n = 0
    rw [mSumZ (n := n) (fun i h1 h2 => h i h1 (by omega)), h n (by omega) (by omega)]
    rfl

set_option maxRecDepth 20000 in
set_option maxHeartbeats 4000000 in
theorem c_X8_worth {l : Launch} {D : va_G} {Y : Nat → ClassId} {a : Int → Nat} (hI : zI a) (σ : zS)  (hrb : 0 ≤ σ 100 0 ∧ σ 100 0 ≤ 15) (hse : (0 ≤ σ 100 5 ∧ σ 100 5 ≤ 3) ∧ (0 ≤ σ 100 6 ∧ σ 100 6 ≤ 3)) (hnm : 1 ≤ σ 100 11 ∧ σ 100 11 ≤ 24) (hpm : 0 ≤ σ 100 18 ∧ σ 100 18 ≤ 110) (hpq : ∀ i : Int, 0 ≤ i → i < 110 → 0 ≤ σ 110 i ∧ σ 110 i ≤ 126) (hrd : ∀ r : Int, 0 ≤ r → r ≤ 3 → (0 ≤ σ 101 r ∧ σ 101 r ≤ 20) ∧ (0 ≤ σ 102 r ∧ σ 102 r ≤ 10) ∧ (0 ≤ σ 103 r ∧ σ 103 r ≤ 9)) (hho : 5 ≤ σ 100 7 ∧ σ 100 7 ≤ 20) (hpz : 0 ≤ σ 100 8 ∧ σ 100 8 ≤ 99) (hch : ∀ i : Int, 0 ≤ i → i < 24 → 0 ≤ σ 105 i ∧ σ 105 i ≤ 200) : zMet l yX8_worth cX8_worth 4 (some .int) 6 (zPc D Y a σ [.ref (a 100)]) (zQi D Y a (fun r τ => (¬ (mBit (σ 100 0) (σ 100 5) = 1 ∧ mBit (σ 100 0) (σ 100 6) = 1 ∧ σ 100 5 ≠ σ 100 6) → r = -3) ∧ (mBit (σ 100 0) (σ 100 5) = 1 ∧ mBit (σ 100 0) (σ 100 6) = 1 ∧ σ 100 5 ≠ σ 100 6 → ¬ (jPl σ ∧ jNoR σ) → r = -5) ∧ (mBit (σ 100 0) (σ 100 5) = 1 ∧ mBit (σ 100 0) (σ 100 6) = 1 ∧ σ 100 5 ≠ σ 100 6 → jPl σ → jNoR σ → ((∃ ρ : zS, jYes σ ρ) ∧ r = -6) ∨ ((∃ (ρ : zS) (q : Int), jPln σ ρ ∧ 0 ≤ q ∧ q < σ 100 11 ∧ jY ρ q ≠ -6) ∧ ((r = -6 ∧ ∀ j : Int, 0 ≤ j → j < σ 100 11 → jBdR σ j) ∨ (0 ≤ r ∧ r < σ 100 11 ∧ jGdR σ r ∧ ∀ j : Int, 0 ≤ j → j < r → jBdR σ j)))) ∧ jFr σ τ)) (inA a) := by
  refine z_start rfl (Nat.le_of_ble_eq_true rfl) hI ?_
  intro p e s m below meth c ls C hr hlocks hl hP
  have hS : va_S (inA a) s.heap s.heap [] := va_S.rf
  have hl : lv_has ls 4 [(0, .ref (a 100))] := hl
  skip
  refine z_aload_n C hl 0 rfl dX8_worth_0 ?_
  refine z_vSi C hP (As := []) lk_X8_206 (c_X8_isNobody hI σ  hrb hse) ob_100 rfl rfl rfl hl.1 rfl (Nat.le_of_ble_eq_true rfl) ⟨Nat.le_of_ble_eq_true rfl, Nat.le_of_ble_eq_true rfl⟩ ⟨Nat.zero_le _, Nat.zero_le _⟩ dX8_worth_1 ?_
  by_cases b_1 : ¬ (mBit (σ 100 0) (σ 100 5) = 1 ∧ mBit (σ 100 0) (σ 100 6) = 1 ∧ σ 100 5 ≠ σ 100 6)
  · rw [show (if ¬ (mBit (σ 100 0) (σ 100 5) = 1 ∧ mBit (σ 100 0) (σ 100 6) = 1 ∧ σ 100 5 ≠ σ 100 6) then (1 : Int) else 0) = 1 from if_pos b_1]
    refine z_ifF_eq C 10 dX8_worth_4 (by decide) ⟨by decide, by decide⟩ (by decide) ?_
    refine z_bipush C (by decide +kernel) dX8_worth_7 ?_
    exact z_retQi C hP hS hr hlocks rfl (by exact ⟨fun _ => rfl, fun h => absurd h b_1, fun h => absurd h b_1, jFr_0 _⟩) dX8_worth_9
  · rw [show (if ¬ (mBit (σ 100 0) (σ 100 5) = 1 ∧ mBit (σ 100 0) (σ 100 6) = 1 ∧ σ 100 5 ≠ σ 100 6) then (1 : Int) else 0) = 0 from if_neg b_1]
    refine z_ifT_eq C 10 dX8_worth_4 (by decide) ⟨by decide, by decide⟩ (by decide) ?_
    refine z_aload_n C hl 0 rfl dX8_worth_10 ?_
    refine z_vQi hS C hP (As := []) lk_X8_142 (c_X8_faultOfPlan hI σ  hnm hpm hpq) ob_100 rfl rfl rfl hl.1 rfl (Nat.le_of_ble_eq_true rfl) ⟨Nat.le_of_ble_eq_true rfl, Nat.le_of_ble_eq_true rfl⟩ ⟨Nat.zero_le _, Nat.zero_le _⟩ dX8_worth_11 (fun r1 t2 H locs hp11 hP hS => ?_)
    have ft2 : jFr σ t2 := jFr_p hp11.2.1
    have hmr := And.intro (mRd_r (mSgM σ) (σ 100 11) (σ 100 18) hnm) (mRd_z (mSgM σ) (σ 100 11) (σ 100 18) (σ 100 11).toNat (i := 0) (by decide))
    refine z_if_lt C 20 dX8_worth_14 (by decide) ⟨by omega, by omega⟩ (fun c_14 => ?_) (fun c_14 => ?_)
    · have hk : jPl σ := hp11.1.symm.trans (by omega)
      have hpn : jPln σ t2 := ⟨hp11.2.1, hp11.2.2 (by omega)⟩
      have ft0 := ft2
      have hd := hp11.2.2 (by omega)
      refine z_iconst C dX8_worth_20 ?_
      refine z_istore_n C [1, 0] [(0, .ref (a 100)), (1, .int (iI 0))] hl (by decide) rfl dX8_worth_21 (fun ls hl => ?_)
      refine z_iconst C dX8_worth_22 ?_
      refine z_istore_n C [1, 2, 0] [(0, .ref (a 100)), (1, .int (iI 0)), (2, .int (iI 0))] hl (by decide) rfl dX8_worth_23 (fun ls hl => ?_)
      have L_24 : ∀ (n : Nat) (so : Int) (i : Int) (τ : zS) (H : Heap) (locs : List Loc) (hP : GP D Y a τ H) (hS : va_S (inA a) s.heap H locs) (ls : Array Slot), (t2 = τ) → (0 ≤ i ∧ i ≤ σ 100 11) → (so = mSum (t2 111) i.toNat) → (0 ≤ so ∧ so ≤ i) → ((σ 100 11 - i).toNat) < n → lv_has ls 4 [(0, .ref (a 100)), (1, .int (iI so)), (2, .int (iI i))] → W p l e (zR 6) s m ([.ref (a 100)] : List Value).toArray below meth c H locs 0 0 (MQ below (zQi D Y a (fun r τ => (¬ (mBit (σ 100 0) (σ 100 5) = 1 ∧ mBit (σ 100 0) (σ 100 6) = 1 ∧ σ 100 5 ≠ σ 100 6) → r = -3) ∧ (mBit (σ 100 0) (σ 100 5) = 1 ∧ mBit (σ 100 0) (σ 100 6) = 1 ∧ σ 100 5 ≠ σ 100 6 → ¬ (jPl σ ∧ jNoR σ) → r = -5) ∧ (mBit (σ 100 0) (σ 100 5) = 1 ∧ mBit (σ 100 0) (σ 100 6) = 1 ∧ σ 100 5 ≠ σ 100 6 → jPl σ → jNoR σ → ((∃ ρ : zS, jYes σ ρ) ∧ r = -6) ∨ ((∃ (ρ : zS) (q : Int), jPln σ ρ ∧ 0 ≤ q ∧ q < σ 100 11 ∧ jY ρ q ≠ -6) ∧ ((r = -6 ∧ ∀ j : Int, 0 ≤ j → j < σ 100 11 → jBdR σ j) ∨ (0 ≤ r ∧ r < σ 100 11 ∧ jGdR σ r ∧ ∀ j : Int, 0 ≤ j → j < r → jBdR σ j)))) ∧ jFr σ τ)) ([.ref (a 100)] : List Value).toArray s 0 0 (inA a)) (F0 m 24 ls []) := by
        intro n
        induction n with
        | zero =>
          intros; omega
        | succ n ih_24 =>
          intro so i τ H locs hP hS ls iT ii iv ib hm hl
          subst iT
          refine z_iload_n C hl 2 rfl dX8_worth_24 ?_
          refine z_aload_n C hl 0 rfl dX8_worth_25 ?_
          refine zg_X8_81 C hP dX8_worth_26 ?_
          rw [show t2 100 11 = σ 100 11 from by rw [ft2 100 11 (by omega) (by omega)]]
          refine z_icmp_ge C 47 dX8_worth_29 (by decide) ⟨by omega, by omega⟩ ⟨by omega, by omega⟩ (fun c_29 => ?_) (fun c_29 => ?_)
          · refine z_iload_n C hl 1 rfl dX8_worth_47 ?_
            refine z_if_le C 54 dX8_worth_48 (by decide) ⟨by omega, by omega⟩ (fun c_48 => ?_) (fun c_48 => ?_)
            · have hno : jNoR σ := by have h0 : mSum (t2 111) (σ 100 11).toNat = 0 := (by rw [show σ 100 11 = i from (by omega), ← iv]; omega); have h1 := mSumP (f := t2 111) (n := (σ 100 11).toNat) (fun i a1 a2 => (by have := mRst_or (mSgM σ) i; rw [(hd i a1 (by omega)).1]; omega)) h0; exact fun i a1 a2 => (by rw [← (hd i a1 a2).1]; exact h1 i a1 (by omega))
              refine z_aload_n C hl 0 rfl dX8_worth_54 ?_
              refine z_vQv hS C hP (As := []) lk_X8_210 (c_X8_rideAll hI t2  (by rw [ft2 100 11 (by omega) (by omega)]; exact hnm) (by rw [ft2 100 5 (by omega) (by omega), ft2 100 6 (by omega) (by omega)]; exact hse) (fun r h1 h2 => by rw [ft2 101 r (by omega) (by omega), ft2 102 r (by omega) (by omega), ft2 103 r (by omega) (by omega)]; exact hrd r h1 h2) (by rw [ft2 100 7 (by omega) (by omega)]; exact hho) (by rw [ft2 100 8 (by omega) (by omega)]; exact hpz) (by rw [ft2 100 11 (by omega) (by omega)]; exact jPl_pl hnm hk hpn hch)) ob_100 rfl rfl rfl hl.1 rfl (Nat.le_of_ble_eq_true rfl) ⟨Nat.le_of_ble_eq_true rfl, Nat.le_of_ble_eq_true rfl⟩ ⟨Nat.zero_le _, Nat.zero_le _⟩ dX8_worth_55 (fun t4 H locs hp55 hP hS => ?_)
              have ft4 : jFr σ t4 := jFr_s ft2 hp55.1
              have hst : ((∃ ρ : zS, jYes σ ρ) ∧ t4 100 24 = -6) ∨ ((∃ (ρ : zS) (q : Int), jPln σ ρ ∧ 0 ≤ q ∧ q < σ 100 11 ∧ jY ρ q ≠ -6) ∧ 1 ≤ t4 100 24 ∧ t4 100 24 ≤ 3) := by have e11 := ft2 100 11 (by omega) (by omega); rw [e11] at hp55; rcases hp55.2 with h | ⟨q, h1, h2⟩; (exact Or.inl ⟨⟨t2, hk, hpn, h.2.2.2.2.2.2.2.2⟩, h.2.1⟩); (have hw := mWhy_r (jWF t2 (q + 1).toNat) (jWB t2 (q + 1).toNat) (jH t2 (q + 1).toNat) (t2 100 7); rw [show mWhy (jWF t2 (q + 1).toNat) (jWB t2 (q + 1).toNat) (jH t2 (q + 1).toNat) (t2 100 7) = jY t2 q from rfl] at hw; have h24 := h2.2.2.1; have h25 := h2.2.2.2.1; exact Or.inr ⟨⟨t2, q, hpn, h2.1, h1, h25⟩, (by omega), (by omega)⟩)
              refine z_bipush C (by decide +kernel) dX8_worth_58 ?_
              refine z_istore_n C [1, 2, 0] [(0, .ref (a 100)), (1, .int (iI so)), (2, .int (iI (-6)))] hl (by decide) rfl dX8_worth_60 (fun ls hl => ?_)
              refine z_aload_n C hl 0 rfl dX8_worth_61 ?_
              refine zg_X8_81 C hP dX8_worth_62 ?_
              rw [show t4 100 11 = σ 100 11 from by rw [ft4 100 11 (by omega) (by omega)]]
              refine z_iconst C dX8_worth_65 ?_
              refine z_isub C dX8_worth_66 ?_
              refine z_topi (fun x5 hx5 => ?_)
              refine z_istore_n C [1, 2, 3, 0] [(0, .ref (a 100)), (1, .int (iI so)), (2, .int (iI (-6))), (3, .int (iI x5))] hl (by decide) rfl dX8_worth_67 (fun ls hl => ?_)
              have L_68 : ∀ (n : Nat) (fo : Int) (k : Int) (τ : zS) (H : Heap) (locs : List Loc) (hP : GP D Y a τ H) (hS : va_S (inA a) s.heap H locs) (ls : Array Slot), (-1 ≤ k ∧ k ≤ σ 100 11 - 1) → (jFr σ τ) → (∀ i : Int, 0 ≤ i → i < σ 100 11 → τ 111 i = 0 ∧ τ 112 i = mEF (mSgM σ) i ∧ τ 113 i = mEB (mSgM σ) i ∧ τ 114 i = mBt (mSgM σ) i) → (((∃ ρ : zS, jYes σ ρ) ∧ τ 100 24 = -6 ∧ k = σ 100 11 - 1 ∧ fo = -6) ∨ ((∃ (ρ : zS) (q : Int), jPln σ ρ ∧ 0 ≤ q ∧ q < σ 100 11 ∧ jY ρ q ≠ -6) ∧ 1 ≤ τ 100 24 ∧ τ 100 24 ≤ 3 ∧ ((fo = -6 ∧ ∀ j : Int, k < j → j < σ 100 11 → jBdR σ j) ∨ (k < fo ∧ fo < σ 100 11 ∧ jGdR σ fo ∧ ∀ j : Int, k < j → j < fo → jBdR σ j)))) → (-6 ≤ fo ∧ fo ≤ 24) → ((k + 1).toNat) < n → lv_has ls 4 [(0, .ref (a 100)), (2, .int (iI fo)), (3, .int (iI k))] → W p l e (zR 6) s m ([.ref (a 100)] : List Value).toArray below meth c H locs 0 0 (MQ below (zQi D Y a (fun r τ => (¬ (mBit (σ 100 0) (σ 100 5) = 1 ∧ mBit (σ 100 0) (σ 100 6) = 1 ∧ σ 100 5 ≠ σ 100 6) → r = -3) ∧ (mBit (σ 100 0) (σ 100 5) = 1 ∧ mBit (σ 100 0) (σ 100 6) = 1 ∧ σ 100 5 ≠ σ 100 6 → ¬ (jPl σ ∧ jNoR σ) → r = -5) ∧ (mBit (σ 100 0) (σ 100 5) = 1 ∧ mBit (σ 100 0) (σ 100 6) = 1 ∧ σ 100 5 ≠ σ 100 6 → jPl σ → jNoR σ → ((∃ ρ : zS, jYes σ ρ) ∧ r = -6) ∨ ((∃ (ρ : zS) (q : Int), jPln σ ρ ∧ 0 ≤ q ∧ q < σ 100 11 ∧ jY ρ q ≠ -6) ∧ ((r = -6 ∧ ∀ j : Int, 0 ≤ j → j < σ 100 11 → jBdR σ j) ∨ (0 ≤ r ∧ r < σ 100 11 ∧ jGdR σ r ∧ ∀ j : Int, 0 ≤ j → j < r → jBdR σ j)))) ∧ jFr σ τ)) ([.ref (a 100)] : List Value).toArray s 0 0 (inA a)) (F0 m 68 ls []) := by
                intro n
                induction n with
                | zero =>
                  intros; omega
                | succ n ih_68 =>
                  intro fo k τ H locs hP hS ls ik fτ ix iw iz hm hl
                  have hbw : -6 ≤ τ 100 24 ∧ τ 100 24 ≤ 3 := by rcases iw with h | h; omega; omega
                  refine z_iload_n C hl 2 rfl dX8_worth_68 ?_
                  refine z_if_lt C 121 dX8_worth_69 (by decide) ⟨by omega, by omega⟩ (fun c_69 => ?_) (fun c_69 => ?_)
                  · refine z_iload_n C hl 1 rfl dX8_worth_121 ?_
                    exact z_retQi C hP hS hr hlocks rfl (by exact ⟨fun h => absurd h b_1, fun _ h => absurd ⟨hk, hno⟩ h, fun _ _ _ => (by rcases iw with h | h; exact Or.inl ⟨h.1, (by omega)⟩; (refine Or.inr ⟨h.1, ?_⟩; rcases h.2.2.2 with g | g; exact Or.inl ⟨g.1, fun j a1 a2 => g.2 j (by omega) a2⟩; exact Or.inr ⟨(by omega), g.2.1, g.2.2.1, fun j a1 a2 => g.2.2.2 j (by omega) a2⟩)), fτ⟩) dX8_worth_122
                  · refine z_aload_n C hl 0 rfl dX8_worth_72 ?_
                    refine zg_X8_159 C hP dX8_worth_73 ?_
                    refine z_if_le C 121 dX8_worth_76 (by decide) ⟨by omega, by omega⟩ (fun c_76 => ?_) (fun c_76 => ?_)
                    · refine z_iload_n C hl 1 rfl dX8_worth_121 ?_
                      exact z_retQi C hP hS hr hlocks rfl (by exact ⟨fun h => absurd h b_1, fun _ h => absurd ⟨hk, hno⟩ h, fun _ _ _ => (by rcases iw with h | h; exact Or.inl ⟨h.1, (by omega)⟩; (refine Or.inr ⟨h.1, ?_⟩; rcases h.2.2.2 with g | g; exact Or.inl ⟨g.1, fun j a1 a2 => g.2 j (by omega) a2⟩; exact Or.inr ⟨(by omega), g.2.1, g.2.2.1, fun j a1 a2 => g.2.2.2 j (by omega) a2⟩)), fτ⟩) dX8_worth_122
                    · refine z_aload_n C hl 0 rfl dX8_worth_79 ?_
                      refine zg_X8_40 C hP dX8_worth_80 ?_
                      refine z_iload_n C hl 2 rfl dX8_worth_83 ?_
                      refine z_iconst C dX8_worth_84 ?_
                      refine z_iast C hP hS ia_111 ⟨by omega, by omega⟩ dX8_worth_85 (fun H locs hP hS => ?_)
                      obtain ⟨t6, et6⟩ : ∃ z : zS, z = zU τ 111 k 1 := ⟨_, rfl⟩
                      rw [← et6] at hP
                      have ft6 : jFr σ t6 := fun c j h1 h2 => by rw [et6, zU_cell (by omega)]; exact fτ c j h1 h2
                      have hpr : jPlR σ t6 k := ⟨ft6, fun i a1 a2 => by have hx := ix i a1 a2; refine ⟨?_, ?_, ?_, ?_⟩; (exact if hi : i = k then (by rw [et6, hi, zU_same, if_pos rfl]) else (by rw [et6, zU_place hi, if_neg hi]; exact hx.1)); (rw [et6, zU_cell (by decide)]; exact hx.2.1); (rw [et6, zU_cell (by decide)]; exact hx.2.2.1); (rw [et6, zU_cell (by decide)]; exact hx.2.2.2)⟩
                      refine z_aload_n C hl 0 rfl dX8_worth_86 ?_
                      refine z_vQv hS C hP (As := []) lk_X8_210 (c_X8_rideAll hI t6  (by rw [ft6 100 11 (by omega) (by omega)]; exact hnm) (by rw [ft6 100 5 (by omega) (by omega), ft6 100 6 (by omega) (by omega)]; exact hse) (fun r h1 h2 => by rw [ft6 101 r (by omega) (by omega), ft6 102 r (by omega) (by omega), ft6 103 r (by omega) (by omega)]; exact hrd r h1 h2) (by rw [ft6 100 7 (by omega) (by omega)]; exact hho) (by rw [ft6 100 8 (by omega) (by omega)]; exact hpz) (by rw [ft6 100 11 (by omega) (by omega)]; exact jPlR_pl hnm hk hpr hch)) ob_100 rfl rfl rfl hl.1 rfl (Nat.le_of_ble_eq_true rfl) ⟨Nat.le_of_ble_eq_true rfl, Nat.le_of_ble_eq_true rfl⟩ ⟨Nat.zero_le _, Nat.zero_le _⟩ dX8_worth_87 (fun t8 H locs hp87 hP hS => ?_)
                      have ft8 : jFr σ t8 := jFr_s ft6 hp87.1
                      have h23 : -6 ≤ t8 100 23 ∧ t8 100 23 ≤ 24 ∧ (t8 100 23 < 0 → jGdR σ k) ∧ (0 ≤ t8 100 23 → jBdR σ k) := by have e11 := ft6 100 11 (by omega) (by omega); rw [e11] at hp87; rcases hp87.2 with h | ⟨q, h1, h2⟩; (exact ⟨by have := h.1; omega, by have := h.1; omega, fun _ => ⟨t6, hpr, h.2.2.2.2.2.2.2.2⟩, fun z => by have := h.1; omega⟩); (exact ⟨by have := h2.1; have := h2.2.1; omega, by have := h2.2.1; omega, fun z => by have := h2.1; have := h2.2.1; omega, fun _ => ⟨t6, q, hpr, h2.1, h1, h2.2.2.2.1⟩⟩)
                      have h111 : ∀ c j : Int, c ≠ 100 → t8 c j = t6 c j := fun c j hc => by rw [jSame_c hp87.1 hc]
                      refine z_aload_n C hl 0 rfl dX8_worth_90 ?_
                      refine zg_X8_156 C hP dX8_worth_91 ?_
                      refine z_if_ge C 101 dX8_worth_94 (by decide) ⟨by omega, by omega⟩ (fun c_94 => ?_) (fun c_94 => ?_)
                      · refine z_iload_n C hl 1 rfl dX8_worth_101 ?_
                        refine z_istore_n C [1, 0, 2] [(0, .ref (a 100)), (2, .int (iI fo)), (3, .int (iI k))] hl (by decide) rfl dX8_worth_102 (fun ls hl => ?_)
                        refine z_aload_n C hl 0 rfl dX8_worth_103 ?_
                        refine zg_X8_40 C hP dX8_worth_104 ?_
                        refine z_iload_n C hl 2 rfl dX8_worth_107 ?_
                        refine z_iconst C dX8_worth_108 ?_
                        refine z_iast C hP hS ia_111 ⟨by omega, by omega⟩ dX8_worth_109 (fun H locs hP hS => ?_)
                        obtain ⟨t9, et9⟩ : ∃ z : zS, z = zU t8 111 k 0 := ⟨_, rfl⟩
                        rw [← et9] at hP
                        refine z_aload_n C hl 0 rfl dX8_worth_110 ?_
                        refine z_iconst C dX8_worth_111 ?_
                        refine zp_X8_159 C hP hS dX8_worth_112 (fun H locs hP hS => ?_)
                        obtain ⟨t10, et10⟩ : ∃ z : zS, z = zU t9 100 24 1 := ⟨_, rfl⟩
                        rw [← et10] at hP
                        refine z_iinc C 2 [1, 2, 0] [(0, .ref (a 100)), (2, .int (iI fo)), (3, .int (iI (k + (-1))))] hl rfl (by decide) rfl dX8_worth_115 (fun ls hl => ?_)
                        refine z_goto C 68 dX8_worth_118 (by decide) ?_
                        exact ih_68 fo (k + (-1)) t10 H locs hP hS ls (by omega) (by intro c j h1 h2; rw [et10, et9, zU_ne (by omega), zU_cell (by omega)]; exact ft8 c j h1 h2) (by intro i a1 a2; have hx := hpr.2 i a1 a2; rw [← h111 111 i (by decide), ← h111 112 i (by decide), ← h111 113 i (by decide), ← h111 114 i (by decide)] at hx; refine ⟨?_, ?_, ?_, ?_⟩; (rw [et10, et9, zU_cell (by decide)]; exact if hi : i = k then (by rw [hi, zU_same]) else (by rw [zU_place hi, hx.1, if_neg hi])); (rw [et10, et9, zU_cell (by decide), zU_cell (by decide)]; exact hx.2.1); (rw [et10, et9, zU_cell (by decide), zU_cell (by decide)]; exact hx.2.2.1); (rw [et10, et9, zU_cell (by decide), zU_cell (by decide)]; exact hx.2.2.2)) (by have h24 : t10 100 24 = 1 := (by rw [et10, et9, zU_same]); rcases iw with h | h; (exfalso; omega); (refine Or.inr ⟨h.1, (by omega), (by omega), ?_⟩; first | exact Or.inr ⟨(by omega), (by omega), h23.2.2.1 (by omega), fun j a1 a2 => (by omega)⟩ | (rcases h.2.2.2 with g | g; exact Or.inl ⟨g.1, fun j a1 a2 => if hj : j = k then (by rw [hj]; exact h23.2.2.2 (by omega)) else g.2 j (by omega) a2⟩; exact Or.inr ⟨(by omega), g.2.1, g.2.2.1, fun j a1 a2 => if hj : j = k then (by rw [hj]; exact h23.2.2.2 (by omega)) else g.2.2.2 j (by omega) a2⟩))) (by omega) (by omega) (lv_sub hl [0, 1, 2] rfl)
                      · refine z_iload_n C hl 2 rfl dX8_worth_97 ?_
                        refine z_goto C 102 dX8_worth_98 (by decide) ?_
                        refine z_istore_n C [1, 0, 2] [(0, .ref (a 100)), (2, .int (iI k)), (3, .int (iI k))] hl (by decide) rfl dX8_worth_102 (fun ls hl => ?_)
                        refine z_aload_n C hl 0 rfl dX8_worth_103 ?_
                        refine zg_X8_40 C hP dX8_worth_104 ?_
                        refine z_iload_n C hl 2 rfl dX8_worth_107 ?_
                        refine z_iconst C dX8_worth_108 ?_
                        refine z_iast C hP hS ia_111 ⟨by omega, by omega⟩ dX8_worth_109 (fun H locs hP hS => ?_)
                        obtain ⟨t11, et11⟩ : ∃ z : zS, z = zU t8 111 k 0 := ⟨_, rfl⟩
                        rw [← et11] at hP
                        refine z_aload_n C hl 0 rfl dX8_worth_110 ?_
                        refine z_iconst C dX8_worth_111 ?_
                        refine zp_X8_159 C hP hS dX8_worth_112 (fun H locs hP hS => ?_)
                        obtain ⟨t12, et12⟩ : ∃ z : zS, z = zU t11 100 24 1 := ⟨_, rfl⟩
                        rw [← et12] at hP
                        refine z_iinc C 2 [1, 2, 0] [(0, .ref (a 100)), (2, .int (iI k)), (3, .int (iI (k + (-1))))] hl rfl (by decide) rfl dX8_worth_115 (fun ls hl => ?_)
                        refine z_goto C 68 dX8_worth_118 (by decide) ?_
                        exact ih_68 k (k + (-1)) t12 H locs hP hS ls (by omega) (by intro c j h1 h2; rw [et12, et11, zU_ne (by omega), zU_cell (by omega)]; exact ft8 c j h1 h2) (by intro i a1 a2; have hx := hpr.2 i a1 a2; rw [← h111 111 i (by decide), ← h111 112 i (by decide), ← h111 113 i (by decide), ← h111 114 i (by decide)] at hx; refine ⟨?_, ?_, ?_, ?_⟩; (rw [et12, et11, zU_cell (by decide)]; exact if hi : i = k then (by rw [hi, zU_same]) else (by rw [zU_place hi, hx.1, if_neg hi])); (rw [et12, et11, zU_cell (by decide), zU_cell (by decide)]; exact hx.2.1); (rw [et12, et11, zU_cell (by decide), zU_cell (by decide)]; exact hx.2.2.1); (rw [et12, et11, zU_cell (by decide), zU_cell (by decide)]; exact hx.2.2.2)) (by have h24 : t12 100 24 = 1 := (by rw [et12, et11, zU_same]); rcases iw with h | h; (exfalso; omega); (refine Or.inr ⟨h.1, (by omega), (by omega), ?_⟩; first | exact Or.inr ⟨(by omega), (by omega), h23.2.2.1 (by omega), fun j a1 a2 => (by omega)⟩ | (rcases h.2.2.2 with g | g; exact Or.inl ⟨g.1, fun j a1 a2 => if hj : j = k then (by rw [hj]; exact h23.2.2.2 (by omega)) else g.2 j (by omega) a2⟩; exact Or.inr ⟨(by omega), g.2.1, g.2.2.1, fun j a1 a2 => if hj : j = k then (by rw [hj]; exact h23.2.2.2 (by omega)) else g.2.2.2 j (by omega) a2⟩))) (by omega) (by omega) (lv_sub hl [0, 1, 2] rfl)
              exact L_68 _ (-6) x5 t4 _ _ hP hS ls (by omega) (by exact ft4) (by intro i a1 a2; have hx := hd i a1 a2; have h0 := hno i a1 a2; rw [jSame_c hp55.1 (by decide : (111 : Int) ≠ 100), jSame_c hp55.1 (by decide : (112 : Int) ≠ 100), jSame_c hp55.1 (by decide : (113 : Int) ≠ 100), jSame_c hp55.1 (by decide : (114 : Int) ≠ 100)]; exact ⟨by rw [hx.1]; exact h0, hx.2⟩) (by rcases hst with h | h; exact Or.inl ⟨h.1, h.2, (by omega), rfl⟩; exact Or.inr ⟨h.1, h.2.1, h.2.2, Or.inl ⟨rfl, fun j a1 a2 => (by omega)⟩⟩) (by omega) (Nat.lt_succ_self _) (lv_sub hl [0, 2, 3] rfl)
            · refine z_bipush C (by decide +kernel) dX8_worth_51 ?_
              exact z_retQi C hP hS hr hlocks rfl (by exact ⟨fun h => absurd h b_1, fun _ _ => rfl, fun _ _ h => (by exfalso; have h0 := mSumZ (f := t2 111) (n := i.toNat) (fun j a1 a2 => (by rw [(hd j a1 (by omega)).1]; exact h j a1 (by omega))); omega), ft0⟩) dX8_worth_53
          · have hdi := hd i ii.1 (by omega)
            have hro := mRst_or (mSgM σ) i
            refine z_iload_n C hl 1 rfl dX8_worth_32 ?_
            refine z_aload_n C hl 0 rfl dX8_worth_33 ?_
            refine zg_X8_40 C hP dX8_worth_34 ?_
            refine z_iload_n C hl 2 rfl dX8_worth_37 ?_
            refine z_iald C hP ia_111 ⟨by omega, by omega⟩ dX8_worth_38 ?_
            refine z_iadd C dX8_worth_39 ?_
            refine z_topi (fun x13 hx13 => ?_)
            refine z_istore_n C [1, 0, 2] [(0, .ref (a 100)), (1, .int (iI x13)), (2, .int (iI i))] hl (by decide) rfl dX8_worth_40 (fun ls hl => ?_)
            refine z_iinc C 2 [1, 2, 0] [(0, .ref (a 100)), (1, .int (iI x13)), (2, .int (iI (i + 1)))] hl rfl (by decide) rfl dX8_worth_41 (fun ls hl => ?_)
            refine z_goto C 24 dX8_worth_44 (by decide) ?_
            exact ih_24 x13 (i + 1) t2 H locs hP hS ls (by rfl) (by omega) (by rw [mSum_s _ ii.1, ← iv]; first | done | omega) (by omega) (by omega) (lv_sub hl [0, 1, 2] rfl)
      exact L_24 _ 0 0 t2 _ _ hP hS ls (by rfl) (by omega) (by rfl) (by omega) (Nat.lt_succ_self _) (lv_sub hl [0, 1, 2] rfl)
    · refine z_bipush C (by decide +kernel) dX8_worth_17 ?_
      exact z_retQi C hP hS hr hlocks rfl (by exact ⟨fun h => absurd h b_1, fun _ _ => rfl, fun _ h => (by exfalso; have h1 : _ = (-6 : Int) := hp11.1.trans h; omega), ft2⟩) dX8_worth_19
