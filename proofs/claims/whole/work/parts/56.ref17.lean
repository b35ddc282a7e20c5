def soS (g C : Int → Int) : Nat → Int
  | 0 => 0
  | n + 1 => if C n = 1 then soS g C n else mSore (soS g C n) (g n)
theorem soS_s (g C : Int → Int) {i : Int} (h : 0 ≤ i) : soS g C (i + 1).toNat = if C i = 1 then soS g C i.toNat else mSore (soS g C i.toNat) (g i) := by
  rw [(zt_s h).1]
  show (if C (i.toNat : Int) = 1 then _ else mSore _ (g (i.toNat : Int))) = _
  rw [(zt_s h).2]
def jGs (σ : zS) (i : Int) : Int := mSort (σ 105 i)
def jCs (σ : zS) (sb i : Int) : Int := if σ 105 i = 99 ∨ σ 105 i = 126 then mBit sb (mSum (jBp σ) i.toNat) else 0
def jSo (σ : zS) (sb : Int) (n : Nat) : Int := soS (jGs σ) (jCs σ sb) n
theorem jSo_s (σ : zS) (sb : Int) {i : Int} (h : 0 ≤ i) : jSo σ sb (i + 1).toNat = if jCs σ sb i = 1 then jSo σ sb i.toNat else mSore (jSo σ sb i.toNat) (mSort (σ 105 i)) := soS_s _ _ h
theorem jCs_y (σ : zS) (sb : Int) {i : Int} (hc : σ 105 i = 99 ∨ σ 105 i = 126) : jCs σ sb i = mBit sb (mSum (jBp σ) i.toNat) := if_pos hc
theorem jCs_n (σ : zS) (sb : Int) {i : Int} (hc : ¬ (σ 105 i = 99 ∨ σ 105 i = 126)) : jCs σ sb i = 0 := if_neg hc
theorem jBp_y (σ : zS) {i : Int} (h : 0 ≤ i) (hc : σ 105 i = 99 ∨ σ 105 i = 126) : mSum (jBp σ) (i + 1).toNat = mSum (jBp σ) i.toNat + 1 := by
  rw [mSum_s _ h, jBp, if_pos hc]
theorem jBp_o (σ : zS) {i : Int} (h : 0 ≤ i) (hc : ¬ (σ 105 i = 99 ∨ σ 105 i = 126)) : mSum (jBp σ) (i + 1).toNat = mSum (jBp σ) i.toNat := by
  rw [mSum_s _ h, jBp, if_neg hc, Int.add_zero]
theorem mSore_o {s c : Int} (hc : ¬ (c = 99 ∨ c = 126)) : mSore s (mSort c) = max 0 (s - 1) := by
  have : mSort c ≠ 5 ∧ mSort c ≠ 6 := by
    unfold mSort
    (repeat' split) <;> omega
  unfold mSore
  rw [if_neg this.1, if_neg this.2]
theorem jSo_1 (σ : zS) (sb : Int) {i : Int} (h : 0 ≤ i) (hc : σ 105 i = 99 ∨ σ 105 i = 126) (hb : mBit sb (mSum (jBp σ) i.toNat) = 1) : jSo σ sb (i + 1).toNat = jSo σ sb i.toNat ∧ mSum (jBp σ) (i + 1).toNat = mSum (jBp σ) i.toNat + 1 := by
  rw [jSo_s σ sb h, jCs_y σ sb hc, if_pos hb]
  exact ⟨rfl, jBp_y σ h hc⟩
theorem jSo_2 (σ : zS) (sb : Int) {i : Int} (h : 0 ≤ i) (hc : σ 105 i = 99) (hb : ¬ mBit sb (mSum (jBp σ) i.toNat) = 1) : jSo σ sb (i + 1).toNat = jSo σ sb i.toNat + 3 ∧ mSum (jBp σ) (i + 1).toNat = mSum (jBp σ) i.toNat + 1 := by
  rw [jSo_s σ sb h, jCs_y σ sb (Or.inl hc), if_neg hb, hc]
  exact ⟨rfl, jBp_y σ h (Or.inl hc)⟩
theorem jSo_3 (σ : zS) (sb : Int) {i : Int} (h : 0 ≤ i) (hc : σ 105 i = 126) (hb : ¬ mBit sb (mSum (jBp σ) i.toNat) = 1) : jSo σ sb (i + 1).toNat = jSo σ sb i.toNat + 2 ∧ mSum (jBp σ) (i + 1).toNat = mSum (jBp σ) i.toNat + 1 := by
  rw [jSo_s σ sb h, jCs_y σ sb (Or.inr hc), if_neg hb, hc]
  exact ⟨rfl, jBp_y σ h (Or.inr hc)⟩
theorem jSo_4 (σ : zS) (sb : Int) {i : Int} (h : 0 ≤ i) (hc : ¬ (σ 105 i = 99 ∨ σ 105 i = 126)) : jSo σ sb (i + 1).toNat = max 0 (jSo σ sb i.toNat - 1) ∧ mSum (jBp σ) (i + 1).toNat = mSum (jBp σ) i.toNat := by
  rw [jSo_s σ sb h, jCs_n σ sb hc, if_neg (by decide), mSore_o hc]
  exact ⟨rfl, jBp_o σ h hc⟩
def jBo (σ : zS) (sb mo n : Int) : Prop := ∀ i : Int, 0 ≤ i → i < n → jSo σ sb (i + 1).toNat ≤ mo
theorem jBo_s (σ : zS) (sb mo : Int) {k : Int} (h : 0 ≤ k) : mB (jBo σ sb mo (k + 1)) = if mB (jBo σ sb mo k) = 0 then 0 else if jSo σ sb (k + 1).toNat ≤ mo then 1 else 0 := by
  by_cases h1 : jBo σ sb mo k
  · rw [mB_t h1, if_neg (by decide)]
    by_cases h2 : jSo σ sb (k + 1).toNat ≤ mo
    · rw [if_pos h2]
      exact mB_t (fun i a1 a2 => if hi : i = k then by rw [hi]; exact h2 else h1 i a1 (by omega))
    · rw [if_neg h2]
      exact mB_f (fun q => h2 (q k h (by omega)))
  · rw [mB_f h1, if_pos rfl]
    exact mB_f (fun q => h1 (fun i a1 a2 => q i a1 (by omega)))

set_option maxRecDepth 20000 in
set_option maxHeartbeats 4000000 in
theorem c_X8_isBorne {l : Launch} {D : va_G} {Y : Nat → ClassId} {a : Int → Nat} (hI : zI a) (σ : zS) (sb mo : Int) (hnm : 1 ≤ σ 100 11 ∧ σ 100 11 ≤ 24) (hch : ∀ i : Int, 0 ≤ i → i < 24 → 0 ≤ σ 105 i ∧ σ 105 i ≤ 200) (hsb : 0 ≤ sb ∧ sb < 4096) (hmo : 0 ≤ mo ∧ mo ≤ 20) : zMet l yX8_isBorne cX8_isBorne 8 (some .boolean) 0 (zPc D Y a σ [.ref (a 100), .int (iI sb), .int (iI mo)]) (zSi (mB (jBo σ sb mo (σ 100 11)))) zNo := by
  refine z_start rfl (Nat.le_of_ble_eq_true rfl) hI ?_
  intro p e s m below meth c ls C hr hlocks hl hP
  have hl : lv_has ls 8 [(0, .ref (a 100)), (1, .int (iI sb)), (2, .int (iI mo))] := hl
  refine z_iconst C dX8_isBorne_0 ?_
  refine z_istore_n C [1, 2, 3, 0] [(0, .ref (a 100)), (1, .int (iI sb)), (2, .int (iI mo)), (3, .int (iI 0))] hl (by decide) rfl dX8_isBorne_1 (fun ls hl => ?_)
  refine z_iconst C dX8_isBorne_2 ?_
  refine z_istore C [1, 2, 3, 4, 0] [(0, .ref (a 100)), (1, .int (iI sb)), (2, .int (iI mo)), (3, .int (iI 0)), (4, .int (iI 0))] hl (by decide) rfl dX8_isBorne_3 (fun ls hl => ?_)
  refine z_iconst C dX8_isBorne_5 ?_
  refine z_istore C [1, 2, 3, 4, 5, 0] [(0, .ref (a 100)), (1, .int (iI sb)), (2, .int (iI mo)), (3, .int (iI 0)), (4, .int (iI 0)), (5, .int (iI 1))] hl (by decide) rfl dX8_isBorne_6 (fun ls hl => ?_)
  refine z_iconst C dX8_isBorne_8 ?_
  refine z_istore C [1, 2, 3, 4, 5, 6, 0] [(0, .ref (a 100)), (1, .int (iI sb)), (2, .int (iI mo)), (3, .int (iI 0)), (4, .int (iI 0)), (5, .int (iI 1)), (6, .int (iI 0))] hl (by decide) rfl dX8_isBorne_9 (fun ls hl => ?_)
  have L_11 : ∀ (n : Nat) (so : Int) (at0 : Int) (bo : Int) (k : Int) (ls : Array Slot), (0 ≤ k ∧ k ≤ σ 100 11) → (so = jSo σ sb k.toNat) → (at0 = mSum (jBp σ) k.toNat) → (bo = mB (jBo σ sb mo k)) → (0 ≤ so ∧ so ≤ 3 * k) → (0 ≤ at0 ∧ at0 ≤ k) → ((σ 100 11 - k).toNat) < n → lv_has ls 8 [(0, .ref (a 100)), (1, .int (iI sb)), (2, .int (iI mo)), (3, .int (iI so)), (4, .int (iI at0)), (5, .int (iI bo)), (6, .int (iI k))] → W p l e (zR 0) s m ([.ref (a 100), .int (iI sb), .int (iI mo)] : List Value).toArray below meth c s.heap [] 0 0 (MQ below (zSi (mB (jBo σ sb mo (σ 100 11)))) ([.ref (a 100), .int (iI sb), .int (iI mo)] : List Value).toArray s 0 0 zNo) (F0 m 11 ls []) := by
    intro n
    induction n with
    | zero =>
      intros; omega
    | succ n ih_11 =>
      intro so at0 bo k ls ii is ia ib ix iy hm hl
      have hbb := mB_b (jBo σ sb mo k)
      rw [← ib] at hbb
      have hsh : 0 ≤ sb / 2 ^ at0.toNat ∧ sb / 2 ^ at0.toNat ≤ sb := ⟨Int.ediv_nonneg (by omega) (Int.le_of_lt (Int.pow_pos (by omega))), Int.ediv_le_self _ (by omega)⟩
      have hmb := mBit_b sb at0
      refine z_iload C hl 6 rfl dX8_isBorne_11 ?_
      refine z_aload_n C hl 0 rfl dX8_isBorne_13 ?_
      refine zg_X8_81 C hP dX8_isBorne_14 ?_
      refine z_icmp_ge C 131 dX8_isBorne_17 (by decide) ⟨by omega, by omega⟩ ⟨by omega, by omega⟩ (fun c_17 => ?_) (fun c_17 => ?_)
      · refine z_iload C hl 5 rfl dX8_isBorne_131 ?_
        exact z_retSi C hr hlocks (zNb (by first | omega | (split <;> omega))) (by rw [ib, show k = σ 100 11 from (by omega)]) dX8_isBorne_133
      · have hci := hch k (by omega) (by omega)
        refine z_aload_n C hl 0 rfl dX8_isBorne_20 ?_
        refine zg_X8_22 C hP dX8_isBorne_21 ?_
        refine z_iload C hl 6 rfl dX8_isBorne_24 ?_
        refine z_iald C hP ia_105 ⟨by omega, by omega⟩ dX8_isBorne_26 ?_
        refine z_bipush C (by decide +kernel) dX8_isBorne_27 ?_
        refine z_icmp_eq C 44 dX8_isBorne_29 (by decide) ⟨by omega, by omega⟩ ⟨by omega, by omega⟩ (fun c_29 => ?_) (fun c_29 => ?_)
        · refine z_iconst C dX8_isBorne_44 ?_
          refine z_goto C 49 dX8_isBorne_45 (by decide) ?_
          refine z_istore C [1, 2, 3, 4, 5, 6, 7, 0] [(0, .ref (a 100)), (1, .int (iI sb)), (2, .int (iI mo)), (3, .int (iI so)), (4, .int (iI at0)), (5, .int (iI bo)), (6, .int (iI k)), (7, .int (iI 1))] hl (by decide) rfl dX8_isBorne_49 (fun ls hl => ?_)
          refine z_iload C hl 7 rfl dX8_isBorne_51 ?_
          refine z_ifF_eq C 96 dX8_isBorne_53 (by decide) ⟨by decide, by decide⟩ (by decide) ?_
          refine z_iload_n C hl 3 rfl dX8_isBorne_56 ?_
          refine z_iload_n C hl 1 rfl dX8_isBorne_57 ?_
          refine z_iload C hl 4 rfl dX8_isBorne_58 ?_
          refine z_ishr C (sb / 2 ^ at0.toNat) (z_shrb ⟨by omega, by omega⟩ ⟨by omega, by omega⟩) dX8_isBorne_60 ?_
          refine z_iconst C dX8_isBorne_61 ?_
          refine z_iand C (mBit sb at0) (z_and1 ⟨by omega, by omega⟩) dX8_isBorne_62 ?_
          refine z_iconst C dX8_isBorne_63 ?_
          refine z_icmp_ne C 71 dX8_isBorne_64 (by decide) ⟨by omega, by omega⟩ ⟨by omega, by omega⟩ (fun c_64 => ?_) (fun c_64 => ?_)
          · refine z_aload_n C hl 0 rfl dX8_isBorne_71 ?_
            refine zg_X8_22 C hP dX8_isBorne_72 ?_
            refine z_iload C hl 6 rfl dX8_isBorne_75 ?_
            refine z_iald C hP ia_105 ⟨by omega, by omega⟩ dX8_isBorne_77 ?_
            refine z_bipush C (by decide +kernel) dX8_isBorne_78 ?_
            refine z_icmp_ne C 87 dX8_isBorne_80 (by decide) ⟨by omega, by omega⟩ ⟨by omega, by omega⟩ (fun c_80 => ?_) (fun c_80 => ?_)
            · exact absurd c_29 c_80
            · refine z_iconst C dX8_isBorne_83 ?_
              refine z_goto C 88 dX8_isBorne_84 (by decide) ?_
              refine z_iadd C dX8_isBorne_88 ?_
              refine z_topi (fun x1 hx1 => ?_)
              refine z_istore_n C [1, 2, 3, 0, 4, 5, 6, 7] [(0, .ref (a 100)), (1, .int (iI sb)), (2, .int (iI mo)), (3, .int (iI x1)), (4, .int (iI at0)), (5, .int (iI bo)), (6, .int (iI k)), (7, .int (iI 1))] hl (by decide) rfl dX8_isBorne_89 (fun ls hl => ?_)
              refine z_iinc C 4 [1, 2, 3, 4, 0, 5, 6, 7] [(0, .ref (a 100)), (1, .int (iI sb)), (2, .int (iI mo)), (3, .int (iI x1)), (4, .int (iI (at0 + 1))), (5, .int (iI bo)), (6, .int (iI k)), (7, .int (iI 1))] hl rfl (by decide) rfl dX8_isBorne_90 (fun ls hl => ?_)
              refine z_goto C 108 dX8_isBorne_93 (by decide) ?_
              have hs1 : jSo σ sb (k + 1).toNat = x1 ∧ mSum (jBp σ) (k + 1).toNat = (at0 + 1) := by first | (have q := jSo_1 σ sb (i := k) ii.1 (by omega) (by rw [← ia]; omega); rw [← is, ← ia] at q; omega) | (have q := jSo_2 σ sb (i := k) ii.1 (by omega) (by rw [← ia]; omega); rw [← is, ← ia] at q; omega) | (have q := jSo_3 σ sb (i := k) ii.1 (by omega) (by rw [← ia]; omega); rw [← is, ← ia] at q; omega) | (have q := jSo_4 σ sb (i := k) ii.1 (by omega); rw [← is, ← ia] at q; omega)
              refine z_iload C hl 5 rfl dX8_isBorne_108 ?_
              refine z_if_eq C 122 dX8_isBorne_110 (by decide) ⟨by omega, by omega⟩ (fun c_110 => ?_) (fun c_110 => ?_)
              · refine z_iconst C dX8_isBorne_122 ?_
                refine z_istore C [1, 2, 3, 4, 5, 0, 6, 7] [(0, .ref (a 100)), (1, .int (iI sb)), (2, .int (iI mo)), (3, .int (iI x1)), (4, .int (iI (at0 + 1))), (5, .int (iI 0)), (6, .int (iI k)), (7, .int (iI 1))] hl (by decide) rfl dX8_isBorne_123 (fun ls hl => ?_)
                refine z_iinc C 6 [1, 2, 3, 4, 5, 6, 0, 7] [(0, .ref (a 100)), (1, .int (iI sb)), (2, .int (iI mo)), (3, .int (iI x1)), (4, .int (iI (at0 + 1))), (5, .int (iI 0)), (6, .int (iI (k + 1))), (7, .int (iI 1))] hl rfl (by decide) rfl dX8_isBorne_125 (fun ls hl => ?_)
                refine z_goto C 11 dX8_isBorne_128 (by decide) ?_
                exact ih_11 x1 (at0 + 1) 0 (k + 1) ls (by omega) (by omega) (by omega) (by rw [jBo_s σ sb mo ii.1, ← ib, hs1.1]; first | (rw [if_pos (by omega)]; done) | (rw [if_neg (by omega), if_pos (by omega)]; done) | (rw [if_neg (by omega), if_neg (by omega)]; done)) (by omega) (by omega) (by omega) (lv_sub hl [0, 1, 2, 3, 4, 5, 6] rfl)
              · refine z_iload_n C hl 3 rfl dX8_isBorne_113 ?_
                refine z_iload_n C hl 2 rfl dX8_isBorne_114 ?_
                refine z_icmp_gt C 122 dX8_isBorne_115 (by decide) ⟨by omega, by omega⟩ ⟨by omega, by omega⟩ (fun c_115 => ?_) (fun c_115 => ?_)
                · refine z_iconst C dX8_isBorne_122 ?_
                  refine z_istore C [1, 2, 3, 4, 5, 0, 6, 7] [(0, .ref (a 100)), (1, .int (iI sb)), (2, .int (iI mo)), (3, .int (iI x1)), (4, .int (iI (at0 + 1))), (5, .int (iI 0)), (6, .int (iI k)), (7, .int (iI 1))] hl (by decide) rfl dX8_isBorne_123 (fun ls hl => ?_)
                  refine z_iinc C 6 [1, 2, 3, 4, 5, 6, 0, 7] [(0, .ref (a 100)), (1, .int (iI sb)), (2, .int (iI mo)), (3, .int (iI x1)), (4, .int (iI (at0 + 1))), (5, .int (iI 0)), (6, .int (iI (k + 1))), (7, .int (iI 1))] hl rfl (by decide) rfl dX8_isBorne_125 (fun ls hl => ?_)
                  refine z_goto C 11 dX8_isBorne_128 (by decide) ?_
                  exact ih_11 x1 (at0 + 1) 0 (k + 1) ls (by omega) (by omega) (by omega) (by rw [jBo_s σ sb mo ii.1, ← ib, hs1.1]; first | (rw [if_pos (by omega)]; done) | (rw [if_neg (by omega), if_pos (by omega)]; done) | (rw [if_neg (by omega), if_neg (by omega)]; done)) (by omega) (by omega) (by omega) (lv_sub hl [0, 1, 2, 3, 4, 5, 6] rfl)
                · refine z_iconst C dX8_isBorne_118 ?_
                  refine z_goto C 123 dX8_isBorne_119 (by decide) ?_
                  refine z_istore C [1, 2, 3, 4, 5, 0, 6, 7] [(0, .ref (a 100)), (1, .int (iI sb)), (2, .int (iI mo)), (3, .int (iI x1)), (4, .int (iI (at0 + 1))), (5, .int (iI 1)), (6, .int (iI k)), (7, .int (iI 1))] hl (by decide) rfl dX8_isBorne_123 (fun ls hl => ?_)
                  refine z_iinc C 6 [1, 2, 3, 4, 5, 6, 0, 7] [(0, .ref (a 100)), (1, .int (iI sb)), (2, .int (iI mo)), (3, .int (iI x1)), (4, .int (iI (at0 + 1))), (5, .int (iI 1)), (6, .int (iI (k + 1))), (7, .int (iI 1))] hl rfl (by decide) rfl dX8_isBorne_125 (fun ls hl => ?_)
                  refine z_goto C 11 dX8_isBorne_128 (by decide) ?_
                  exact ih_11 x1 (at0 + 1) 1 (k + 1) ls (by omega) (by omega) (by omega) (by rw [jBo_s σ sb mo ii.1, ← ib, hs1.1]; first | (rw [if_pos (by omega)]; done) | (rw [if_neg (by omega), if_pos (by omega)]; done) | (rw [if_neg (by omega), if_neg (by omega)]; done)) (by omega) (by omega) (by omega) (lv_sub hl [0, 1, 2, 3, 4, 5, 6] rfl)
          · refine z_iconst C dX8_isBorne_67 ?_
            refine z_goto C 88 dX8_isBorne_68 (by decide) ?_
            refine z_iadd C dX8_isBorne_88 ?_
            refine z_topi (fun x2 hx2 => ?_)
            refine z_istore_n C [1, 2, 3, 0, 4, 5, 6, 7] [(0, .ref (a 100)), (1, .int (iI sb)), (2, .int (iI mo)), (3, .int (iI x2)), (4, .int (iI at0)), (5, .int (iI bo)), (6, .int (iI k)), (7, .int (iI 1))] hl (by decide) rfl dX8_isBorne_89 (fun ls hl => ?_)
            refine z_iinc C 4 [1, 2, 3, 4, 0, 5, 6, 7] [(0, .ref (a 100)), (1, .int (iI sb)), (2, .int (iI mo)), (3, .int (iI x2)), (4, .int (iI (at0 + 1))), (5, .int (iI bo)), (6, .int (iI k)), (7, .int (iI 1))] hl rfl (by decide) rfl dX8_isBorne_90 (fun ls hl => ?_)
            refine z_goto C 108 dX8_isBorne_93 (by decide) ?_
            have hs1 : jSo σ sb (k + 1).toNat = x2 ∧ mSum (jBp σ) (k + 1).toNat = (at0 + 1) := by first | (have q := jSo_1 σ sb (i := k) ii.1 (by omega) (by rw [← ia]; omega); rw [← is, ← ia] at q; omega) | (have q := jSo_2 σ sb (i := k) ii.1 (by omega) (by rw [← ia]; omega); rw [← is, ← ia] at q; omega) | (have q := jSo_3 σ sb (i := k) ii.1 (by omega) (by rw [← ia]; omega); rw [← is, ← ia] at q; omega) | (have q := jSo_4 σ sb (i := k) ii.1 (by omega); rw [← is, ← ia] at q; omega)
            refine z_iload C hl 5 rfl dX8_isBorne_108 ?_
            refine z_if_eq C 122 dX8_isBorne_110 (by decide) ⟨by omega, by omega⟩ (fun c_110 => ?_) (fun c_110 => ?_)
            · refine z_iconst C dX8_isBorne_122 ?_
              refine z_istore C [1, 2, 3, 4, 5, 0, 6, 7] [(0, .ref (a 100)), (1, .int (iI sb)), (2, .int (iI mo)), (3, .int (iI x2)), (4, .int (iI (at0 + 1))), (5, .int (iI 0)), (6, .int (iI k)), (7, .int (iI 1))] hl (by decide) rfl dX8_isBorne_123 (fun ls hl => ?_)
              refine z_iinc C 6 [1, 2, 3, 4, 5, 6, 0, 7] [(0, .ref (a 100)), (1, .int (iI sb)), (2, .int (iI mo)), (3, .int (iI x2)), (4, .int (iI (at0 + 1))), (5, .int (iI 0)), (6, .int (iI (k + 1))), (7, .int (iI 1))] hl rfl (by decide) rfl dX8_isBorne_125 (fun ls hl => ?_)
              refine z_goto C 11 dX8_isBorne_128 (by decide) ?_
              exact ih_11 x2 (at0 + 1) 0 (k + 1) ls (by omega) (by omega) (by omega) (by rw [jBo_s σ sb mo ii.1, ← ib, hs1.1]; first | (rw [if_pos (by omega)]; done) | (rw [if_neg (by omega), if_pos (by omega)]; done) | (rw [if_neg (by omega), if_neg (by omega)]; done)) (by omega) (by omega) (by omega) (lv_sub hl [0, 1, 2, 3, 4, 5, 6] rfl)
            · refine z_iload_n C hl 3 rfl dX8_isBorne_113 ?_
              refine z_iload_n C hl 2 rfl dX8_isBorne_114 ?_
              refine z_icmp_gt C 122 dX8_isBorne_115 (by decide) ⟨by omega, by omega⟩ ⟨by omega, by omega⟩ (fun c_115 => ?_) (fun c_115 => ?_)
              · refine z_iconst C dX8_isBorne_122 ?_
                refine z_istore C [1, 2, 3, 4, 5, 0, 6, 7] [(0, .ref (a 100)), (1, .int (iI sb)), (2, .int (iI mo)), (3, .int (iI x2)), (4, .int (iI (at0 + 1))), (5, .int (iI 0)), (6, .int (iI k)), (7, .int (iI 1))] hl (by decide) rfl dX8_isBorne_123 (fun ls hl => ?_)
                refine z_iinc C 6 [1, 2, 3, 4, 5, 6, 0, 7] [(0, .ref (a 100)), (1, .int (iI sb)), (2, .int (iI mo)), (3, .int (iI x2)), (4, .int (iI (at0 + 1))), (5, .int (iI 0)), (6, .int (iI (k + 1))), (7, .int (iI 1))] hl rfl (by decide) rfl dX8_isBorne_125 (fun ls hl => ?_)
                refine z_goto C 11 dX8_isBorne_128 (by decide) ?_
                exact ih_11 x2 (at0 + 1) 0 (k + 1) ls (by omega) (by omega) (by omega) (by rw [jBo_s σ sb mo ii.1, ← ib, hs1.1]; first | (rw [if_pos (by omega)]; done) | (rw [if_neg (by omega), if_pos (by omega)]; done) | (rw [if_neg (by omega), if_neg (by omega)]; done)) (by omega) (by omega) (by omega) (lv_sub hl [0, 1, 2, 3, 4, 5, 6] rfl)
              · refine z_iconst C dX8_isBorne_118 ?_
                refine z_goto C 123 dX8_isBorne_119 (by decide) ?_
                refine z_istore C [1, 2, 3, 4, 5, 0, 6, 7] [(0, .ref (a 100)), (1, .int (iI sb)), (2, .int (iI mo)), (3, .int (iI x2)), (4, .int (iI (at0 + 1))), (5, .int (iI 1)), (6, .int (iI k)), (7, .int (iI 1))] hl (by decide) rfl dX8_isBorne_123 (fun ls hl => ?_)
                refine z_iinc C 6 [1, 2, 3, 4, 5, 6, 0, 7] [(0, .ref (a 100)), (1, .int (iI sb)), (2, .int (iI mo)), (3, .int (iI x2)), (4, .int (iI (at0 + 1))), (5, .int (iI 1)), (6, .int (iI (k + 1))), (7, .int (iI 1))] hl rfl (by decide) rfl dX8_isBorne_125 (fun ls hl => ?_)
                refine z_goto C 11 dX8_isBorne_128 (by decide) ?_
                exact ih_11 x2 (at0 + 1) 1 (k + 1) ls (by omega) (by omega) (by omega) (by rw [jBo_s σ sb mo ii.1, ← ib, hs1.1]; first | (rw [if_pos (by omega)]; done) | (rw [if_neg (by omega), if_pos (by omega)]; done) | (rw [if_neg (by omega), if_neg (by omega)]; done)) (by omega) (by omega) (by omega) (lv_sub hl [0, 1, 2, 3, 4, 5, 6] rfl)
        · refine z_aload_n C hl 0 rfl dX8_isBorne_32 ?_
          refine zg_X8_22 C hP dX8_isBorne_33 ?_
          refine z_iload C hl 6 rfl dX8_isBorne_36 ?_
          refine z_iald C hP ia_105 ⟨by omega, by omega⟩ dX8_isBorne_38 ?_
          refine z_bipush C (by decide +kernel) dX8_isBorne_39 ?_
          refine z_icmp_ne C 48 dX8_isBorne_41 (by decide) ⟨by omega, by omega⟩ ⟨by omega, by omega⟩ (fun c_41 => ?_) (fun c_41 => ?_)
          · refine z_iconst C dX8_isBorne_48 ?_
            refine z_istore C [1, 2, 3, 4, 5, 6, 7, 0] [(0, .ref (a 100)), (1, .int (iI sb)), (2, .int (iI mo)), (3, .int (iI so)), (4, .int (iI at0)), (5, .int (iI bo)), (6, .int (iI k)), (7, .int (iI 0))] hl (by decide) rfl dX8_isBorne_49 (fun ls hl => ?_)
            refine z_iload C hl 7 rfl dX8_isBorne_51 ?_
            refine z_ifT_eq C 96 dX8_isBorne_53 (by decide) ⟨by decide, by decide⟩ (by decide) ?_
            refine z_iload_n C hl 3 rfl dX8_isBorne_96 ?_
            refine z_if_le C 106 dX8_isBorne_97 (by decide) ⟨by omega, by omega⟩ (fun c_97 => ?_) (fun c_97 => ?_)
            · refine z_iconst C dX8_isBorne_106 ?_
              refine z_istore_n C [1, 2, 3, 0, 4, 5, 6, 7] [(0, .ref (a 100)), (1, .int (iI sb)), (2, .int (iI mo)), (3, .int (iI 0)), (4, .int (iI at0)), (5, .int (iI bo)), (6, .int (iI k)), (7, .int (iI 0))] hl (by decide) rfl dX8_isBorne_107 (fun ls hl => ?_)
              have hs1 : jSo σ sb (k + 1).toNat = 0 ∧ mSum (jBp σ) (k + 1).toNat = at0 := by first | (have q := jSo_1 σ sb (i := k) ii.1 (by omega) (by rw [← ia]; omega); rw [← is, ← ia] at q; omega) | (have q := jSo_2 σ sb (i := k) ii.1 (by omega) (by rw [← ia]; omega); rw [← is, ← ia] at q; omega) | (have q := jSo_3 σ sb (i := k) ii.1 (by omega) (by rw [← ia]; omega); rw [← is, ← ia] at q; omega) | (have q := jSo_4 σ sb (i := k) ii.1 (by omega); rw [← is, ← ia] at q; omega)
              refine z_iload C hl 5 rfl dX8_isBorne_108 ?_
              refine z_if_eq C 122 dX8_isBorne_110 (by decide) ⟨by omega, by omega⟩ (fun c_110 => ?_) (fun c_110 => ?_)
              · refine z_iconst C dX8_isBorne_122 ?_
                refine z_istore C [1, 2, 3, 4, 5, 0, 6, 7] [(0, .ref (a 100)), (1, .int (iI sb)), (2, .int (iI mo)), (3, .int (iI 0)), (4, .int (iI at0)), (5, .int (iI 0)), (6, .int (iI k)), (7, .int (iI 0))] hl (by decide) rfl dX8_isBorne_123 (fun ls hl => ?_)
                refine z_iinc C 6 [1, 2, 3, 4, 5, 6, 0, 7] [(0, .ref (a 100)), (1, .int (iI sb)), (2, .int (iI mo)), (3, .int (iI 0)), (4, .int (iI at0)), (5, .int (iI 0)), (6, .int (iI (k + 1))), (7, .int (iI 0))] hl rfl (by decide) rfl dX8_isBorne_125 (fun ls hl => ?_)
                refine z_goto C 11 dX8_isBorne_128 (by decide) ?_
                exact ih_11 0 at0 0 (k + 1) ls (by omega) (by omega) (by omega) (by rw [jBo_s σ sb mo ii.1, ← ib, hs1.1]; first | (rw [if_pos (by omega)]; done) | (rw [if_neg (by omega), if_pos (by omega)]; done) | (rw [if_neg (by omega), if_neg (by omega)]; done)) (by omega) (by omega) (by omega) (lv_sub hl [0, 1, 2, 3, 4, 5, 6] rfl)
              · refine z_iload_n C hl 3 rfl dX8_isBorne_113 ?_
                refine z_iload_n C hl 2 rfl dX8_isBorne_114 ?_
                refine z_icmp_gt C 122 dX8_isBorne_115 (by decide) ⟨by omega, by omega⟩ ⟨by omega, by omega⟩ (fun c_115 => ?_) (fun c_115 => ?_)
                · refine z_iconst C dX8_isBorne_122 ?_
                  refine z_istore C [1, 2, 3, 4, 5, 0, 6, 7] [(0, .ref (a 100)), (1, .int (iI sb)), (2, .int (iI mo)), (3, .int (iI 0)), (4, .int (iI at0)), (5, .int (iI 0)), (6, .int (iI k)), (7, .int (iI 0))] hl (by decide) rfl dX8_isBorne_123 (fun ls hl => ?_)
                  refine z_iinc C 6 [1, 2, 3, 4, 5, 6, 0, 7] [(0, .ref (a 100)), (1, .int (iI sb)), (2, .int (iI mo)), (3, .int (iI 0)), (4, .int (iI at0)), (5, .int (iI 0)), (6, .int (iI (k + 1))), (7, .int (iI 0))] hl rfl (by decide) rfl dX8_isBorne_125 (fun ls hl => ?_)
                  refine z_goto C 11 dX8_isBorne_128 (by decide) ?_
                  exact ih_11 0 at0 0 (k + 1) ls (by omega) (by omega) (by omega) (by rw [jBo_s σ sb mo ii.1, ← ib, hs1.1]; first | (rw [if_pos (by omega)]; done) | (rw [if_neg (by omega), if_pos (by omega)]; done) | (rw [if_neg (by omega), if_neg (by omega)]; done)) (by omega) (by omega) (by omega) (lv_sub hl [0, 1, 2, 3, 4, 5, 6] rfl)
                · refine z_iconst C dX8_isBorne_118 ?_
                  refine z_goto C 123 dX8_isBorne_119 (by decide) ?_
                  refine z_istore C [1, 2, 3, 4, 5, 0, 6, 7] [(0, .ref (a 100)), (1, .int (iI sb)), (2, .int (iI mo)), (3, .int (iI 0)), (4, .int (iI at0)), (5, .int (iI 1)), (6, .int (iI k)), (7, .int (iI 0))] hl (by decide) rfl dX8_isBorne_123 (fun ls hl => ?_)
                  refine z_iinc C 6 [1, 2, 3, 4, 5, 6, 0, 7] [(0, .ref (a 100)), (1, .int (iI sb)), (2, .int (iI mo)), (3, .int (iI 0)), (4, .int (iI at0)), (5, .int (iI 1)), (6, .int (iI (k + 1))), (7, .int (iI 0))] hl rfl (by decide) rfl dX8_isBorne_125 (fun ls hl => ?_)
                  refine z_goto C 11 dX8_isBorne_128 (by decide) ?_
                  exact ih_11 0 at0 1 (k + 1) ls (by omega) (by omega) (by omega) (by rw [jBo_s σ sb mo ii.1, ← ib, hs1.1]; first | (rw [if_pos (by omega)]; done) | (rw [if_neg (by omega), if_pos (by omega)]; done) | (rw [if_neg (by omega), if_neg (by omega)]; done)) (by omega) (by omega) (by omega) (lv_sub hl [0, 1, 2, 3, 4, 5, 6] rfl)
            · refine z_iload_n C hl 3 rfl dX8_isBorne_100 ?_
              refine z_iconst C dX8_isBorne_101 ?_
              refine z_isub C dX8_isBorne_102 ?_
              refine z_goto C 107 dX8_isBorne_103 (by decide) ?_
              refine z_topi (fun x3 hx3 => ?_)
              refine z_istore_n C [1, 2, 3, 0, 4, 5, 6, 7] [(0, .ref (a 100)), (1, .int (iI sb)), (2, .int (iI mo)), (3, .int (iI x3)), (4, .int (iI at0)), (5, .int (iI bo)), (6, .int (iI k)), (7, .int (iI 0))] hl (by decide) rfl dX8_isBorne_107 (fun ls hl => ?_)
              have hs1 : jSo σ sb (k + 1).toNat = x3 ∧ mSum (jBp σ) (k + 1).toNat = at0 := by first | (have q := jSo_1 σ sb (i := k) ii.1 (by omega) (by rw [← ia]; omega); rw [← is, ← ia] at q; omega) | (have q := jSo_2 σ sb (i := k) ii.1 (by omega) (by rw [← ia]; omega); rw [← is, ← ia] at q; omega) | (have q := jSo_3 σ sb (i := k) ii.1 (by omega) (by rw [← ia]; omega); rw [← is, ← ia] at q; omega) | (have q := jSo_4 σ sb (i := k) ii.1 (by omega); rw [← is, ← ia] at q; omega)
              refine z_iload C hl 5 rfl dX8_isBorne_108 ?_
              refine z_if_eq C 122 dX8_isBorne_110 (by decide) ⟨by omega, by omega⟩ (fun c_110 => ?_) (fun c_110 => ?_)
              · refine z_iconst C dX8_isBorne_122 ?_
                refine z_istore C [1, 2, 3, 4, 5, 0, 6, 7] [(0, .ref (a 100)), (1, .int (iI sb)), (2, .int (iI mo)), (3, .int (iI x3)), (4, .int (iI at0)), (5, .int (iI 0)), (6, .int (iI k)), (7, .int (iI 0))] hl (by decide) rfl dX8_isBorne_123 (fun ls hl => ?_)
                refine z_iinc C 6 [1, 2, 3, 4, 5, 6, 0, 7] [(0, .ref (a 100)), (1, .int (iI sb)), (2, .int (iI mo)), (3, .int (iI x3)), (4, .int (iI at0)), (5, .int (iI 0)), (6, .int (iI (k + 1))), (7, .int (iI 0))] hl rfl (by decide) rfl dX8_isBorne_125 (fun ls hl => ?_)
                refine z_goto C 11 dX8_isBorne_128 (by decide) ?_
                exact ih_11 x3 at0 0 (k + 1) ls (by omega) (by omega) (by omega) (by rw [jBo_s σ sb mo ii.1, ← ib, hs1.1]; first | (rw [if_pos (by omega)]; done) | (rw [if_neg (by omega), if_pos (by omega)]; done) | (rw [if_neg (by omega), if_neg (by omega)]; done)) (by omega) (by omega) (by omega) (lv_sub hl [0, 1, 2, 3, 4, 5, 6] rfl)
              · refine z_iload_n C hl 3 rfl dX8_isBorne_113 ?_
                refine z_iload_n C hl 2 rfl dX8_isBorne_114 ?_
                refine z_icmp_gt C 122 dX8_isBorne_115 (by decide) ⟨by omega, by omega⟩ ⟨by omega, by omega⟩ (fun c_115 => ?_) (fun c_115 => ?_)
                · refine z_iconst C dX8_isBorne_122 ?_
                  refine z_istore C [1, 2, 3, 4, 5, 0, 6, 7] [(0, .ref (a 100)), (1, .int (iI sb)), (2, .int (iI mo)), (3, .int (iI x3)), (4, .int (iI at0)), (5, .int (iI 0)), (6, .int (iI k)), (7, .int (iI 0))] hl (by decide) rfl dX8_isBorne_123 (fun ls hl => ?_)
                  refine z_iinc C 6 [1, 2, 3, 4, 5, 6, 0, 7] [(0, .ref (a 100)), (1, .int (iI sb)), (2, .int (iI mo)), (3, .int (iI x3)), (4, .int (iI at0)), (5, .int (iI 0)), (6, .int (iI (k + 1))), (7, .int (iI 0))] hl rfl (by decide) rfl dX8_isBorne_125 (fun ls hl => ?_)
                  refine z_goto C 11 dX8_isBorne_128 (by decide) ?_
                  exact ih_11 x3 at0 0 (k + 1) ls (by omega) (by omega) (by omega) (by rw [jBo_s σ sb mo ii.1, ← ib, hs1.1]; first | (rw [if_pos (by omega)]; done) | (rw [if_neg (by omega), if_pos (by omega)]; done) | (rw [if_neg (by omega), if_neg (by omega)]; done)) (by omega) (by omega) (by omega) (lv_sub hl [0, 1, 2, 3, 4, 5, 6] rfl)
                · refine z_iconst C dX8_isBorne_118 ?_
                  refine z_goto C 123 dX8_isBorne_119 (by decide) ?_
                  refine z_istore C [1, 2, 3, 4, 5, 0, 6, 7] [(0, .ref (a 100)), (1, .int (iI sb)), (2, .int (iI mo)), (3, .int (iI x3)), (4, .int (iI at0)), (5, .int (iI 1)), (6, .int (iI k)), (7, .int (iI 0))] hl (by decide) rfl dX8_isBorne_123 (fun ls hl => ?_)
                  refine z_iinc C 6 [1, 2, 3, 4, 5, 6, 0, 7] [(0, .ref (a 100)), (1, .int (iI sb)), (2, .int (iI mo)), (3, .int (iI x3)), (4, .int (iI at0)), (5, .int (iI 1)), (6, .int (iI (k + 1))), (7, .int (iI 0))] hl rfl (by decide) rfl dX8_isBorne_125 (fun ls hl => ?_)
                  refine z_goto C 11 dX8_isBorne_128 (by decide) ?_
                  exact ih_11 x3 at0 1 (k + 1) ls (by omega) (by omega) (by omega) (by rw [jBo_s σ sb mo ii.1, ← ib, hs1.1]; first | (rw [if_pos (by omega)]; done) | (rw [if_neg (by omega), if_pos (by omega)]; done) | (rw [if_neg (by omega), if_neg (by omega)]; done)) (by omega) (by omega) (by omega) (lv_sub hl [0, 1, 2, 3, 4, 5, 6] rfl)
          · refine z_iconst C dX8_isBorne_44 ?_
            refine z_goto C 49 dX8_isBorne_45 (by decide) ?_
            refine z_istore C [1, 2, 3, 4, 5, 6, 7, 0] [(0, .ref (a 100)), (1, .int (iI sb)), (2, .int (iI mo)), (3, .int (iI so)), (4, .int (iI at0)), (5, .int (iI bo)), (6, .int (iI k)), (7, .int (iI 1))] hl (by decide) rfl dX8_isBorne_49 (fun ls hl => ?_)
            refine z_iload C hl 7 rfl dX8_isBorne_51 ?_
            refine z_ifF_eq C 96 dX8_isBorne_53 (by decide) ⟨by decide, by decide⟩ (by decide) ?_
            refine z_iload_n C hl 3 rfl dX8_isBorne_56 ?_
            refine z_iload_n C hl 1 rfl dX8_isBorne_57 ?_
            refine z_iload C hl 4 rfl dX8_isBorne_58 ?_
            refine z_ishr C (sb / 2 ^ at0.toNat) (z_shrb ⟨by omega, by omega⟩ ⟨by omega, by omega⟩) dX8_isBorne_60 ?_
            refine z_iconst C dX8_isBorne_61 ?_
            refine z_iand C (mBit sb at0) (z_and1 ⟨by omega, by omega⟩) dX8_isBorne_62 ?_
            refine z_iconst C dX8_isBorne_63 ?_
            refine z_icmp_ne C 71 dX8_isBorne_64 (by decide) ⟨by omega, by omega⟩ ⟨by omega, by omega⟩ (fun c_64 => ?_) (fun c_64 => ?_)
            · refine z_aload_n C hl 0 rfl dX8_isBorne_71 ?_
              refine zg_X8_22 C hP dX8_isBorne_72 ?_
              refine z_iload C hl 6 rfl dX8_isBorne_75 ?_
              refine z_iald C hP ia_105 ⟨by omega, by omega⟩ dX8_isBorne_77 ?_
              refine z_bipush C (by decide +kernel) dX8_isBorne_78 ?_
              refine z_icmp_ne C 87 dX8_isBorne_80 (by decide) ⟨by omega, by omega⟩ ⟨by omega, by omega⟩ (fun c_80 => ?_) (fun c_80 => ?_)
              · refine z_iconst C dX8_isBorne_87 ?_
                refine z_iadd C dX8_isBorne_88 ?_
                refine z_topi (fun x4 hx4 => ?_)
                refine z_istore_n C [1, 2, 3, 0, 4, 5, 6, 7] [(0, .ref (a 100)), (1, .int (iI sb)), (2, .int (iI mo)), (3, .int (iI x4)), (4, .int (iI at0)), (5, .int (iI bo)), (6, .int (iI k)), (7, .int (iI 1))] hl (by decide) rfl dX8_isBorne_89 (fun ls hl => ?_)
                refine z_iinc C 4 [1, 2, 3, 4, 0, 5, 6, 7] [(0, .ref (a 100)), (1, .int (iI sb)), (2, .int (iI mo)), (3, .int (iI x4)), (4, .int (iI (at0 + 1))), (5, .int (iI bo)), (6, .int (iI k)), (7, .int (iI 1))] hl rfl (by decide) rfl dX8_isBorne_90 (fun ls hl => ?_)
                refine z_goto C 108 dX8_isBorne_93 (by decide) ?_
                have hs1 : jSo σ sb (k + 1).toNat = x4 ∧ mSum (jBp σ) (k + 1).toNat = (at0 + 1) := by first | (have q := jSo_1 σ sb (i := k) ii.1 (by omega) (by rw [← ia]; omega); rw [← is, ← ia] at q; omega) | (have q := jSo_2 σ sb (i := k) ii.1 (by omega) (by rw [← ia]; omega); rw [← is, ← ia] at q; omega) | (have q := jSo_3 σ sb (i := k) ii.1 (by omega) (by rw [← ia]; omega); rw [← is, ← ia] at q; omega) | (have q := jSo_4 σ sb (i := k) ii.1 (by omega); rw [← is, ← ia] at q; omega)
                refine z_iload C hl 5 rfl dX8_isBorne_108 ?_
                refine z_if_eq C 122 dX8_isBorne_110 (by decide) ⟨by omega, by omega⟩ (fun c_110 => ?_) (fun c_110 => ?_)
                · refine z_iconst C dX8_isBorne_122 ?_
                  refine z_istore C [1, 2, 3, 4, 5, 0, 6, 7] [(0, .ref (a 100)), (1, .int (iI sb)), (2, .int (iI mo)), (3, .int (iI x4)), (4, .int (iI (at0 + 1))), (5, .int (iI 0)), (6, .int (iI k)), (7, .int (iI 1))] hl (by decide) rfl dX8_isBorne_123 (fun ls hl => ?_)
                  refine z_iinc C 6 [1, 2, 3, 4, 5, 6, 0, 7] [(0, .ref (a 100)), (1, .int (iI sb)), (2, .int (iI mo)), (3, .int (iI x4)), (4, .int (iI (at0 + 1))), (5, .int (iI 0)), (6, .int (iI (k + 1))), (7, .int (iI 1))] hl rfl (by decide) rfl dX8_isBorne_125 (fun ls hl => ?_)
                  refine z_goto C 11 dX8_isBorne_128 (by decide) ?_
                  exact ih_11 x4 (at0 + 1) 0 (k + 1) ls (by omega) (by omega) (by omega) (by rw [jBo_s σ sb mo ii.1, ← ib, hs1.1]; first | (rw [if_pos (by omega)]; done) | (rw [if_neg (by omega), if_pos (by omega)]; done) | (rw [if_neg (by omega), if_neg (by omega)]; done)) (by omega) (by omega) (by omega) (lv_sub hl [0, 1, 2, 3, 4, 5, 6] rfl)
                · refine z_iload_n C hl 3 rfl dX8_isBorne_113 ?_
                  refine z_iload_n C hl 2 rfl dX8_isBorne_114 ?_
                  refine z_icmp_gt C 122 dX8_isBorne_115 (by decide) ⟨by omega, by omega⟩ ⟨by omega, by omega⟩ (fun c_115 => ?_) (fun c_115 => ?_)
                  · refine z_iconst C dX8_isBorne_122 ?_
                    refine z_istore C [1, 2, 3, 4, 5, 0, 6, 7] [(0, .ref (a 100)), (1, .int (iI sb)), (2, .int (iI mo)), (3, .int (iI x4)), (4, .int (iI (at0 + 1))), (5, .int (iI 0)), (6, .int (iI k)), (7, .int (iI 1))] hl (by decide) rfl dX8_isBorne_123 (fun ls hl => ?_)
                    refine z_iinc C 6 [1, 2, 3, 4, 5, 6, 0, 7] [(0, .ref (a 100)), (1, .int (iI sb)), (2, .int (iI mo)), (3, .int (iI x4)), (4, .int (iI (at0 + 1))), (5, .int (iI 0)), (6, .int (iI (k + 1))), (7, .int (iI 1))] hl rfl (by decide) rfl dX8_isBorne_125 (fun ls hl => ?_)
                    refine z_goto C 11 dX8_isBorne_128 (by decide) ?_
                    exact ih_11 x4 (at0 + 1) 0 (k + 1) ls (by omega) (by omega) (by omega) (by rw [jBo_s σ sb mo ii.1, ← ib, hs1.1]; first | (rw [if_pos (by omega)]; done) | (rw [if_neg (by omega), if_pos (by omega)]; done) | (rw [if_neg (by omega), if_neg (by omega)]; done)) (by omega) (by omega) (by omega) (lv_sub hl [0, 1, 2, 3, 4, 5, 6] rfl)
                  · refine z_iconst C dX8_isBorne_118 ?_
                    refine z_goto C 123 dX8_isBorne_119 (by decide) ?_
                    refine z_istore C [1, 2, 3, 4, 5, 0, 6, 7] [(0, .ref (a 100)), (1, .int (iI sb)), (2, .int (iI mo)), (3, .int (iI x4)), (4, .int (iI (at0 + 1))), (5, .int (iI 1)), (6, .int (iI k)), (7, .int (iI 1))] hl (by decide) rfl dX8_isBorne_123 (fun ls hl => ?_)
                    refine z_iinc C 6 [1, 2, 3, 4, 5, 6, 0, 7] [(0, .ref (a 100)), (1, .int (iI sb)), (2, .int (iI mo)), (3, .int (iI x4)), (4, .int (iI (at0 + 1))), (5, .int (iI 1)), (6, .int (iI (k + 1))), (7, .int (iI 1))] hl rfl (by decide) rfl dX8_isBorne_125 (fun ls hl => ?_)
                    refine z_goto C 11 dX8_isBorne_128 (by decide) ?_
                    exact ih_11 x4 (at0 + 1) 1 (k + 1) ls (by omega) (by omega) (by omega) (by rw [jBo_s σ sb mo ii.1, ← ib, hs1.1]; first | (rw [if_pos (by omega)]; done) | (rw [if_neg (by omega), if_pos (by omega)]; done) | (rw [if_neg (by omega), if_neg (by omega)]; done)) (by omega) (by omega) (by omega) (lv_sub hl [0, 1, 2, 3, 4, 5, 6] rfl)
              · exact absurd c_80 c_29
            · refine z_iconst C dX8_isBorne_67 ?_
              refine z_goto C 88 dX8_isBorne_68 (by decide) ?_
              refine z_iadd C dX8_isBorne_88 ?_
              refine z_topi (fun x5 hx5 => ?_)
              refine z_istore_n C [1, 2, 3, 0, 4, 5, 6, 7] [(0, .ref (a 100)), (1, .int (iI sb)), (2, .int (iI mo)), (3, .int (iI x5)), (4, .int (iI at0)), (5, .int (iI bo)), (6, .int (iI k)), (7, .int (iI 1))] hl (by decide) rfl dX8_isBorne_89 (fun ls hl => ?_)
              refine z_iinc C 4 [1, 2, 3, 4, 0, 5, 6, 7] [(0, .ref (a 100)), (1, .int (iI sb)), (2, .int (iI mo)), (3, .int (iI x5)), (4, .int (iI (at0 + 1))), (5, .int (iI bo)), (6, .int (iI k)), (7, .int (iI 1))] hl rfl (by decide) rfl dX8_isBorne_90 (fun ls hl => ?_)
              refine z_goto C 108 dX8_isBorne_93 (by decide) ?_
              have hs1 : jSo σ sb (k + 1).toNat = x5 ∧ mSum (jBp σ) (k + 1).toNat = (at0 + 1) := by first | (have q := jSo_1 σ sb (i := k) ii.1 (by omega) (by rw [← ia]; omega); rw [← is, ← ia] at q; omega) | (have q := jSo_2 σ sb (i := k) ii.1 (by omega) (by rw [← ia]; omega); rw [← is, ← ia] at q; omega) | (have q := jSo_3 σ sb (i := k) ii.1 (by omega) (by rw [← ia]; omega); rw [← is, ← ia] at q; omega) | (have q := jSo_4 σ sb (i := k) ii.1 (by omega); rw [← is, ← ia] at q; omega)
              refine z_iload C hl 5 rfl dX8_isBorne_108 ?_
              refine z_if_eq C 122 dX8_isBorne_110 (by decide) ⟨by omega, by omega⟩ (fun c_110 => ?_) (fun c_110 => ?_)
              · refine z_iconst C dX8_isBorne_122 ?_
                refine z_istore C [1, 2, 3, 4, 5, 0, 6, 7] [(0, .ref (a 100)), (1, .int (iI sb)), (2, .int (iI mo)), (3, .int (iI x5)), (4, .int (iI (at0 + 1))), (5, .int (iI 0)), (6, .int (iI k)), (7, .int (iI 1))] hl (by decide) rfl dX8_isBorne_123 (fun ls hl => ?_)
                refine z_iinc C 6 [1, 2, 3, 4, 5, 6, 0, 7] [(0, .ref (a 100)), (1, .int (iI sb)), (2, .int (iI mo)), (3, .int (iI x5)), (4, .int (iI (at0 + 1))), (5, .int (iI 0)), (6, .int (iI (k + 1))), (7, .int (iI 1))] hl rfl (by decide) rfl dX8_isBorne_125 (fun ls hl => ?_)
                refine z_goto C 11 dX8_isBorne_128 (by decide) ?_
                exact ih_11 x5 (at0 + 1) 0 (k + 1) ls (by omega) (by omega) (by omega) (by rw [jBo_s σ sb mo ii.1, ← ib, hs1.1]; first | (rw [if_pos (by omega)]; done) | (rw [if_neg (by omega), if_pos (by omega)]; done) | (rw [if_neg (by omega), if_neg (by omega)]; done)) (by omega) (by omega) (by omega) (lv_sub hl [0, 1, 2, 3, 4, 5, 6] rfl)
              · refine z_iload_n C hl 3 rfl dX8_isBorne_113 ?_
                refine z_iload_n C hl 2 rfl dX8_isBorne_114 ?_
                refine z_icmp_gt C 122 dX8_isBorne_115 (by decide) ⟨by omega, by omega⟩ ⟨by omega, by omega⟩ (fun c_115 => ?_) (fun c_115 => ?_)
                · refine z_iconst C dX8_isBorne_122 ?_
                  refine z_istore C [1, 2, 3, 4, 5, 0, 6, 7] [(0, .ref (a 100)), (1, .int (iI sb)), (2, .int (iI mo)), (3, .int (iI x5)), (4, .int (iI (at0 + 1))), (5, .int (iI 0)), (6, .int (iI k)), (7, .int (iI 1))] hl (by decide) rfl dX8_isBorne_123 (fun ls hl => ?_)
                  refine z_iinc C 6 [1, 2, 3, 4, 5, 6, 0, 7] [(0, .ref (a 100)), (1, .int (iI sb)), (2, .int (iI mo)), (3, .int (iI x5)), (4, .int (iI (at0 + 1))), (5, .int (iI 0)), (6, .int (iI (k + 1))), (7, .int (iI 1))] hl rfl (by decide) rfl dX8_isBorne_125 (fun ls hl => ?_)
                  refine z_goto C 11 dX8_isBorne_128 (by decide) ?_
                  exact ih_11 x5 (at0 + 1) 0 (k + 1) ls (by omega) (by omega) (by omega) (by rw [jBo_s σ sb mo ii.1, ← ib, hs1.1]; first | (rw [if_pos (by omega)]; done) | (rw [if_neg (by omega), if_pos (by omega)]; done) | (rw [if_neg (by omega), if_neg (by omega)]; done)) (by omega) (by omega) (by omega) (lv_sub hl [0, 1, 2, 3, 4, 5, 6] rfl)
                · refine z_iconst C dX8_isBorne_118 ?_
                  refine z_goto C 123 dX8_isBorne_119 (by decide) ?_
                  refine z_istore C [1, 2, 3, 4, 5, 0, 6, 7] [(0, .ref (a 100)), (1, .int (iI sb)), (2, .int (iI mo)), (3, .int (iI x5)), (4, .int (iI (at0 + 1))), (5, .int (iI 1)), (6, .int (iI k)), (7, .int (iI 1))] hl (by decide) rfl dX8_isBorne_123 (fun ls hl => ?_)
                  refine z_iinc C 6 [1, 2, 3, 4, 5, 6, 0, 7] [(0, .ref (a 100)), (1, .int (iI sb)), (2, .int (iI mo)), (3, .int (iI x5)), (4, .int (iI (at0 + 1))), (5, .int (iI 1)), (6, .int (iI (k + 1))), (7, .int (iI 1))] hl rfl (by decide) rfl dX8_isBorne_125 (fun ls hl => ?_)
                  refine z_goto C 11 dX8_isBorne_128 (by decide) ?_
                  exact ih_11 x5 (at0 + 1) 1 (k + 1) ls (by omega) (by omega) (by omega) (by rw [jBo_s σ sb mo ii.1, ← ib, hs1.1]; first | (rw [if_pos (by omega)]; done) | (rw [if_neg (by omega), if_pos (by omega)]; done) | (rw [if_neg (by omega), if_neg (by omega)]; done)) (by omega) (by omega) (by omega) (lv_sub hl [0, 1, 2, 3, 4, 5, 6] rfl)
  exact L_11 _ 0 0 1 0 ls (by omega) (by rfl) (by rfl) (by exact (mB_t (fun i h1 h2 => by omega)).symm) (by omega) (by omega) (Nat.lt_succ_self _) (lv_sub hl [0, 1, 2, 3, 4, 5, 6] rfl)

def jStF (σ : zS) (sb i : Int) : Int := if jCs σ sb i = 1 then 2 ^ i.toNat else 0
theorem jStF_b (σ : zS) (sb i : Int) (_ : 0 ≤ i) : jStF σ sb i = 0 ∨ jStF σ sb i = 2 ^ i.toNat := by
  unfold jStF
  split
  · exact Or.inr rfl
  · exact Or.inl rfl
set_option maxRecDepth 20000 in
set_option maxHeartbeats 4000000 in
theorem c_X8_stretchesOf {l : Launch} {D : va_G} {Y : Nat → ClassId} {a : Int → Nat} (hI : zI a) (σ : zS) (sb : Int) (hnm : 1 ≤ σ 100 11 ∧ σ 100 11 ≤ 24) (hch : ∀ i : Int, 0 ≤ i → i < 24 → 0 ≤ σ 105 i ∧ σ 105 i ≤ 200) (hsb : 0 ≤ sb ∧ sb < 4096) : zMet l yX8_stretchesOf cX8_stretchesOf 5 (some .int) 0 (zPc D Y a σ [.ref (a 100), .int (iI sb)]) (zSi (mSum (jStF σ sb) (σ 100 11).toNat)) zNo := by
  refine z_start rfl (Nat.le_of_ble_eq_true rfl) hI ?_
  intro p e s m below meth c ls C hr hlocks hl hP
  have hl : lv_has ls 5 [(0, .ref (a 100)), (1, .int (iI sb))] := hl
  refine z_iconst C dX8_stretchesOf_0 ?_
  refine z_istore_n C [1, 2, 0] [(0, .ref (a 100)), (1, .int (iI sb)), (2, .int (iI 0))] hl (by decide) rfl dX8_stretchesOf_1 (fun ls hl => ?_)
  refine z_iconst C dX8_stretchesOf_2 ?_
  refine z_istore_n C [1, 2, 3, 0] [(0, .ref (a 100)), (1, .int (iI sb)), (2, .int (iI 0)), (3, .int (iI 0))] hl (by decide) rfl dX8_stretchesOf_3 (fun ls hl => ?_)
  refine z_iconst C dX8_stretchesOf_4 ?_
  refine z_istore C [1, 2, 3, 4, 0] [(0, .ref (a 100)), (1, .int (iI sb)), (2, .int (iI 0)), (3, .int (iI 0)), (4, .int (iI 0))] hl (by decide) rfl dX8_stretchesOf_5 (fun ls hl => ?_)
  have L_7 : ∀ (n : Nat) (bits : Int) (at0 : Int) (k : Int) (ls : Array Slot), (0 ≤ k ∧ k ≤ σ 100 11) → (bits = mSum (jStF σ sb) k.toNat) → (at0 = mSum (jBp σ) k.toNat) → (0 ≤ at0 ∧ at0 ≤ k) → ((σ 100 11 - k).toNat) < n → lv_has ls 5 [(0, .ref (a 100)), (1, .int (iI sb)), (2, .int (iI bits)), (3, .int (iI at0)), (4, .int (iI k))] → W p l e (zR 0) s m ([.ref (a 100), .int (iI sb)] : List Value).toArray below meth c s.heap [] 0 0 (MQ below (zSi (mSum (jStF σ sb) (σ 100 11).toNat)) ([.ref (a 100), .int (iI sb)] : List Value).toArray s 0 0 zNo) (F0 m 7 ls []) := by
    intro n
    induction n with
    | zero =>
      intros; omega
    | succ n ih_7 =>
      intro bits at0 k ls ii iv ia iy hm hl
      have hsh : 0 ≤ sb / 2 ^ at0.toNat ∧ sb / 2 ^ at0.toNat ≤ sb := ⟨Int.ediv_nonneg (by omega) (Int.le_of_lt (Int.pow_pos (by omega))), Int.ediv_le_self _ (by omega)⟩
      have hmb := mBit_b sb at0
      have hbs := mBS_b (jStF_b σ sb) k.toNat
      rw [← iv] at hbs
      have htl2 := two_le 0 k.toNat (by omega)
      refine z_iload C hl 4 rfl dX8_stretchesOf_7 ?_
      refine z_aload_n C hl 0 rfl dX8_stretchesOf_9 ?_
      refine zg_X8_81 C hP dX8_stretchesOf_10 ?_
      refine z_icmp_ge C 69 dX8_stretchesOf_13 (by decide) ⟨by omega, by omega⟩ ⟨by omega, by omega⟩ (fun c_13 => ?_) (fun c_13 => ?_)
      · refine z_iload_n C hl 2 rfl dX8_stretchesOf_69 ?_
        exact z_retSi C hr hlocks rfl (by rw [iv, show k = σ 100 11 from (by omega)]) dX8_stretchesOf_70
      · have hci := hch k (by omega) (by omega)
        refine z_aload_n C hl 0 rfl dX8_stretchesOf_16 ?_
        refine zg_X8_22 C hP dX8_stretchesOf_17 ?_
        refine z_iload C hl 4 rfl dX8_stretchesOf_20 ?_
        refine z_iald C hP ia_105 ⟨by omega, by omega⟩ dX8_stretchesOf_22 ?_
        refine z_bipush C (by decide +kernel) dX8_stretchesOf_23 ?_
        refine z_icmp_eq C 40 dX8_stretchesOf_25 (by decide) ⟨by omega, by omega⟩ ⟨by omega, by omega⟩ (fun c_25 => ?_) (fun c_25 => ?_)
        · refine z_iload_n C hl 2 rfl dX8_stretchesOf_40 ?_
          refine z_iload_n C hl 1 rfl dX8_stretchesOf_41 ?_
          refine z_iload_n C hl 3 rfl dX8_stretchesOf_42 ?_
          refine z_ishr C (sb / 2 ^ at0.toNat) (z_shrb ⟨by omega, by omega⟩ ⟨by omega, by omega⟩) dX8_stretchesOf_43 ?_
          refine z_iconst C dX8_stretchesOf_44 ?_
          refine z_iand C (mBit sb at0) (z_and1 ⟨by omega, by omega⟩) dX8_stretchesOf_45 ?_
          refine z_iconst C dX8_stretchesOf_46 ?_
          refine z_icmp_ne C 57 dX8_stretchesOf_47 (by decide) ⟨by omega, by omega⟩ ⟨by omega, by omega⟩ (fun c_47 => ?_) (fun c_47 => ?_)
          · refine z_iconst C dX8_stretchesOf_57 ?_
            refine z_ior C bits (z_or0 _) dX8_stretchesOf_58 ?_
            refine z_istore_n C [1, 2, 0, 3, 4] [(0, .ref (a 100)), (1, .int (iI sb)), (2, .int (iI bits)), (3, .int (iI at0)), (4, .int (iI k))] hl (by decide) rfl dX8_stretchesOf_59 (fun ls hl => ?_)
            refine z_iinc C 3 [1, 2, 3, 0, 4] [(0, .ref (a 100)), (1, .int (iI sb)), (2, .int (iI bits)), (3, .int (iI (at0 + 1))), (4, .int (iI k))] hl rfl (by decide) rfl dX8_stretchesOf_60 (fun ls hl => ?_)
            refine z_iinc C 4 [1, 2, 3, 4, 0] [(0, .ref (a 100)), (1, .int (iI sb)), (2, .int (iI bits)), (3, .int (iI (at0 + 1))), (4, .int (iI (k + 1)))] hl rfl (by decide) rfl dX8_stretchesOf_63 (fun ls hl => ?_)
            refine z_goto C 7 dX8_stretchesOf_66 (by decide) ?_
            exact ih_7 bits (at0 + 1) (k + 1) ls (by omega) (by rw [mSum_s _ ii.1, ← iv]; unfold jStF; first | (rw [jCs_y σ sb (by omega), ← ia, if_pos (by omega)]; first | done | omega) | (rw [jCs_y σ sb (by omega), ← ia, if_neg (by omega)]; first | done | omega) | (rw [jCs_n σ sb (by omega), if_neg (by decide)]; first | done | omega)) (by first | (rw [jBp_y σ ii.1 (by omega)]; omega) | (rw [jBp_o σ ii.1 (by omega)]; exact ia)) (by omega) (by omega) (lv_sub hl [0, 1, 2, 3, 4] rfl)
          · refine z_iconst C dX8_stretchesOf_50 ?_
            refine z_iload C hl 4 rfl dX8_stretchesOf_51 ?_
            refine z_ishl C (2 ^ k.toNat) (z_shl1 ⟨by omega, by omega⟩) dX8_stretchesOf_53 ?_
            refine z_goto C 58 dX8_stretchesOf_54 (by decide) ?_
            refine z_ior C (bits + 2 ^ k.toNat) (z_orhi ⟨by omega, by omega⟩ hbs) dX8_stretchesOf_58 ?_
            refine z_topi (fun x1 hx1 => ?_)
            refine z_istore_n C [1, 2, 0, 3, 4] [(0, .ref (a 100)), (1, .int (iI sb)), (2, .int (iI x1)), (3, .int (iI at0)), (4, .int (iI k))] hl (by decide) rfl dX8_stretchesOf_59 (fun ls hl => ?_)
            refine z_iinc C 3 [1, 2, 3, 0, 4] [(0, .ref (a 100)), (1, .int (iI sb)), (2, .int (iI x1)), (3, .int (iI (at0 + 1))), (4, .int (iI k))] hl rfl (by decide) rfl dX8_stretchesOf_60 (fun ls hl => ?_)
            refine z_iinc C 4 [1, 2, 3, 4, 0] [(0, .ref (a 100)), (1, .int (iI sb)), (2, .int (iI x1)), (3, .int (iI (at0 + 1))), (4, .int (iI (k + 1)))] hl rfl (by decide) rfl dX8_stretchesOf_63 (fun ls hl => ?_)
            refine z_goto C 7 dX8_stretchesOf_66 (by decide) ?_
            exact ih_7 x1 (at0 + 1) (k + 1) ls (by omega) (by rw [mSum_s _ ii.1, ← iv]; unfold jStF; first | (rw [jCs_y σ sb (by omega), ← ia, if_pos (by omega)]; first | done | omega) | (rw [jCs_y σ sb (by omega), ← ia, if_neg (by omega)]; first | done | omega) | (rw [jCs_n σ sb (by omega), if_neg (by decide)]; first | done | omega)) (by first | (rw [jBp_y σ ii.1 (by omega)]; omega) | (rw [jBp_o σ ii.1 (by omega)]; exact ia)) (by omega) (by omega) (lv_sub hl [0, 1, 2, 3, 4] rfl)
        · refine z_aload_n C hl 0 rfl dX8_stretchesOf_28 ?_
          refine zg_X8_22 C hP dX8_stretchesOf_29 ?_
          refine z_iload C hl 4 rfl dX8_stretchesOf_32 ?_
          refine z_iald C hP ia_105 ⟨by omega, by omega⟩ dX8_stretchesOf_34 ?_
          refine z_bipush C (by decide +kernel) dX8_stretchesOf_35 ?_
          refine z_icmp_ne C 63 dX8_stretchesOf_37 (by decide) ⟨by omega, by omega⟩ ⟨by omega, by omega⟩ (fun c_37 => ?_) (fun c_37 => ?_)
          · refine z_iinc C 4 [1, 2, 3, 4, 0] [(0, .ref (a 100)), (1, .int (iI sb)), (2, .int (iI bits)), (3, .int (iI at0)), (4, .int (iI (k + 1)))] hl rfl (by decide) rfl dX8_stretchesOf_63 (fun ls hl => ?_)
            refine z_goto C 7 dX8_stretchesOf_66 (by decide) ?_
            exact ih_7 bits at0 (k + 1) ls (by omega) (by rw [mSum_s _ ii.1, ← iv]; unfold jStF; first | (rw [jCs_y σ sb (by omega), ← ia, if_pos (by omega)]; first | done | omega) | (rw [jCs_y σ sb (by omega), ← ia, if_neg (by omega)]; first | done | omega) | (rw [jCs_n σ sb (by omega), if_neg (by decide)]; first | done | omega)) (by first | (rw [jBp_y σ ii.1 (by omega)]; omega) | (rw [jBp_o σ ii.1 (by omega)]; exact ia)) (by omega) (by omega) (lv_sub hl [0, 1, 2, 3, 4] rfl)
          · refine z_iload_n C hl 2 rfl dX8_stretchesOf_40 ?_
            refine z_iload_n C hl 1 rfl dX8_stretchesOf_41 ?_
            refine z_iload_n C hl 3 rfl dX8_stretchesOf_42 ?_
            refine z_ishr C (sb / 2 ^ at0.toNat) (z_shrb ⟨by omega, by omega⟩ ⟨by omega, by omega⟩) dX8_stretchesOf_43 ?_
            refine z_iconst C dX8_stretchesOf_44 ?_
            refine z_iand C (mBit sb at0) (z_and1 ⟨by omega, by omega⟩) dX8_stretchesOf_45 ?_
            refine z_iconst C dX8_stretchesOf_46 ?_
            refine z_icmp_ne C 57 dX8_stretchesOf_47 (by decide) ⟨by omega, by omega⟩ ⟨by omega, by omega⟩ (fun c_47 => ?_) (fun c_47 => ?_)
            · refine z_iconst C dX8_stretchesOf_57 ?_
              refine z_ior C bits (z_or0 _) dX8_stretchesOf_58 ?_
              refine z_istore_n C [1, 2, 0, 3, 4] [(0, .ref (a 100)), (1, .int (iI sb)), (2, .int (iI bits)), (3, .int (iI at0)), (4, .int (iI k))] hl (by decide) rfl dX8_stretchesOf_59 (fun ls hl => ?_)
              refine z_iinc C 3 [1, 2, 3, 0, 4] [(0, .ref (a 100)), (1, .int (iI sb)), (2, .int (iI bits)), (3, .int (iI (at0 + 1))), (4, .int (iI k))] hl rfl (by decide) rfl dX8_stretchesOf_60 (fun ls hl => ?_)
              refine z_iinc C 4 [1, 2, 3, 4, 0] [(0, .ref (a 100)), (1, .int (iI sb)), (2, .int (iI bits)), (3, .int (iI (at0 + 1))), (4, .int (iI (k + 1)))] hl rfl (by decide) rfl dX8_stretchesOf_63 (fun ls hl => ?_)
              refine z_goto C 7 dX8_stretchesOf_66 (by decide) ?_
              exact ih_7 bits (at0 + 1) (k + 1) ls (by omega) (by rw [mSum_s _ ii.1, ← iv]; unfold jStF; first | (rw [jCs_y σ sb (by omega), ← ia, if_pos (by omega)]; first | done | omega) | (rw [jCs_y σ sb (by omega), ← ia, if_neg (by omega)]; first | done | omega) | (rw [jCs_n σ sb (by omega), if_neg (by decide)]; first | done | omega)) (by first | (rw [jBp_y σ ii.1 (by omega)]; omega) | (rw [jBp_o σ ii.1 (by omega)]; exact ia)) (by omega) (by omega) (lv_sub hl [0, 1, 2, 3, 4] rfl)
            · refine z_iconst C dX8_stretchesOf_50 ?_
              refine z_iload C hl 4 rfl dX8_stretchesOf_51 ?_
              refine z_ishl C (2 ^ k.toNat) (z_shl1 ⟨by omega, by omega⟩) dX8_stretchesOf_53 ?_
              refine z_goto C 58 dX8_stretchesOf_54 (by decide) ?_
              refine z_ior C (bits + 2 ^ k.toNat) (z_orhi ⟨by omega, by omega⟩ hbs) dX8_stretchesOf_58 ?_
              refine z_topi (fun x2 hx2 => ?_)
              refine z_istore_n C [1, 2, 0, 3, 4] [(0, .ref (a 100)), (1, .int (iI sb)), (2, .int (iI x2)), (3, .int (iI at0)), (4, .int (iI k))] hl (by decide) rfl dX8_stretchesOf_59 (fun ls hl => ?_)
              refine z_iinc C 3 [1, 2, 3, 0, 4] [(0, .ref (a 100)), (1, .int (iI sb)), (2, .int (iI x2)), (3, .int (iI (at0 + 1))), (4, .int (iI k))] hl rfl (by decide) rfl dX8_stretchesOf_60 (fun ls hl => ?_)
              refine z_iinc C 4 [1, 2, 3, 4, 0] [(0, .ref (a 100)), (1, .int (iI sb)), (2, .int (iI x2)), (3, .int (iI (at0 + 1))), (4, .int (iI (k + 1)))] hl rfl (by decide) rfl dX8_stretchesOf_63 (fun ls hl => ?_)
              refine z_goto C 7 dX8_stretchesOf_66 (by decide) ?_
              exact ih_7 x2 (at0 + 1) (k + 1) ls (by omega) (by rw [mSum_s _ ii.1, ← iv]; unfold jStF; first | (rw [jCs_y σ sb (by omega), ← ia, if_pos (by omega)]; first | done | omega) | (rw [jCs_y σ sb (by omega), ← ia, if_neg (by omega)]; first | done | omega) | (rw [jCs_n σ sb (by omega), if_neg (by decide)]; first | done | omega)) (by first | (rw [jBp_y σ ii.1 (by omega)]; omega) | (rw [jBp_o σ ii.1 (by omega)]; exact ia)) (by omega) (by omega) (lv_sub hl [0, 1, 2, 3, 4] rfl)
  exact L_7 _ 0 0 0 ls (by omega) (by rfl) (by rfl) (by omega) (Nat.lt_succ_self _) (lv_sub hl [0, 1, 2, 3, 4] rfl)

def jBs (σ : zS) (mo best sb : Int) : Prop := (best = -6 ∧ ∀ s : Int, 0 ≤ s → s < sb → ¬ jBo σ s mo (σ 100 11)) ∨ (0 ≤ best ∧ best < sb ∧ jBo σ best mo (σ 100 11) ∧ ∀ s : Int, 0 ≤ s → s < sb → jBo σ s mo (σ 100 11) → mPop best < mPop s ∨ (mPop best = mPop s ∧ best ≤ s))
theorem jBs_y {σ : zS} {mo best sb : Int} (h : jBs σ mo best sb) (h0 : 0 ≤ sb) (hf : best < 0 ∨ mPop sb < mPop best) (hb : jBo σ sb mo (σ 100 11)) : jBs σ mo sb (sb + 1) := by
  refine Or.inr ⟨h0, by omega, hb, fun s h1 h2 h3 => ?_⟩
  by_cases hs : s = sb
  · subst hs; exact Or.inr ⟨rfl, by omega⟩
  · rcases h with ⟨_, h⟩ | ⟨g1, g2, g3, g4⟩
    · exact absurd h3 (h s h1 (by omega))
    · have := g4 s h1 (by omega) h3
      omega
theorem jBs_n {σ : zS} {mo best sb : Int} (h : jBs σ mo best sb) (h0 : 0 ≤ sb) (hb : ¬ jBo σ sb mo (σ 100 11)) : jBs σ mo best (sb + 1) := by
  rcases h with ⟨h, g⟩ | ⟨g1, g2, g3, g4⟩
  · exact Or.inl ⟨h, fun s h1 h2 => if hs : s = sb then by rw [hs]; exact hb else g s h1 (by omega)⟩
  · exact Or.inr ⟨g1, by omega, g3, fun s h1 h2 h3 => if hs : s = sb then absurd (by rw [← hs]; exact h3) hb else g4 s h1 (by omega) h3⟩
theorem jBs_m {σ : zS} {mo best sb : Int} (h : jBs σ mo best sb) (h0 : 0 ≤ sb) (hf : ¬ best < 0) (hp : ¬ mPop sb < mPop best) : jBs σ mo best (sb + 1) := by
  rcases h with ⟨h, g⟩ | ⟨g1, g2, g3, g4⟩
  · omega
  · refine Or.inr ⟨g1, by omega, g3, fun s h1 h2 h3 => ?_⟩
    by_cases hs : s = sb
    · subst hs; omega
    · exact g4 s h1 (by omega) h3
theorem mSum_le {f : Int → Int} (hf : ∀ i : Int, 0 ≤ i → 0 ≤ f i) : ∀ {m n : Nat}, m ≤ n → mSum f m ≤ mSum f n := by
  intro m n h
  induction n with
  | zero =>
    have : m = 0 := by omega
    rw [this]
    exact Int.le_refl _
  | succ n ih =>
    by_cases hm : m = n + 1
    · rw [hm]
      exact Int.le_refl _
    · have h1 := ih (by omega)
      have h2 := hf n (by omega)
      show mSum f m ≤ mSum f n + f n
      omega
theorem mBit_all : ∀ b : Nat, b < 13 → ∀ j : Nat, j < b → mBit ((2 : Int) ^ b - 1) (j : Int) = 1 := by decide +kernel
theorem p12 : ∀ n : Nat, n < 13 → (1 : Int) ≤ 2 ^ n ∧ (2 : Int) ^ n ≤ 4096 := by decide +kernel
theorem jBo_all {σ : zS} (hnm : 1 ≤ σ 100 11 ∧ σ 100 11 ≤ 24) {mo : Int} (hmo : 0 ≤ mo) (hb : mSum (jBp σ) (σ 100 11).toNat ≤ 12) : jBo σ ((2 : Int) ^ (mSum (jBp σ) (σ 100 11).toNat).toNat - 1) mo (σ 100 11) := by
  have h0 := jBp_n σ (σ 100 11).toNat
  have key : ∀ m : Nat, m ≤ (σ 100 11).toNat → jSo σ ((2 : Int) ^ (mSum (jBp σ) (σ 100 11).toNat).toNat - 1) m = 0 := by
    intro m
    induction m with
    | zero => intro _; rfl
    | succ m ih =>
      intro hm
      have h1 := ih (by omega)
      rw [show m + 1 = ((m : Int) + 1).toNat by omega]
      by_cases hc : σ 105 m = 99 ∨ σ 105 m = 126
      · have a1 := jBp_y σ (i := (m : Int)) (by omega) hc
        have a2 := mSum_le (f := jBp σ) (fun i _ => by have := jBp_b σ i; omega) (m := ((m : Int) + 1).toNat) (n := (σ 100 11).toNat) (by omega)
        have a3 := jBp_n σ m
        have a4 := mBit_all (mSum (jBp σ) (σ 100 11).toNat).toNat (by omega) (mSum (jBp σ) ((m : Int)).toNat).toNat (by rw [show ((m : Int)).toNat = m by omega] at a1 ⊢; omega)
        rw [Int.toNat_of_nonneg (by rw [show ((m : Int)).toNat = m by omega]; exact a3.1)] at a4
        rw [(jSo_1 σ _ (i := (m : Int)) (by omega) hc a4).1]
        exact h1
      · rw [(jSo_4 σ _ (i := (m : Int)) (by omega) hc).1, show ((m : Int)).toNat = m by omega, h1]
        rfl
  intro i h1 h2
  rw [key (i + 1).toNat (by omega)]
  exact hmo
set_option maxRecDepth 20000 in
set_option maxHeartbeats 4000000 in
theorem c_X8_calls {l : Launch} {D : va_G} {Y : Nat → ClassId} {a : Int → Nat} (hI : zI a) (σ : zS) (mo wh : Int) (r1 : R3 mo) (r2 : R3 wh) (hnm : 1 ≤ σ 100 11 ∧ σ 100 11 ≤ 24) (hch : ∀ i : Int, 0 ≤ i → i < 24 → 0 ≤ σ 105 i ∧ σ 105 i ≤ 200) : zMet l yX8_calls cX8_calls 6 (some .int) 2 (zPc D Y a σ [.ref (a 100), .int (iI mo), .int (iI wh)]) (zQi D Y a (fun r τ => (¬ ((0 ≤ mo ∧ mo ≤ 20) ∧ 0 ≤ wh ∧ wh ≤ 1) → r = -2) ∧ ((0 ≤ mo ∧ mo ≤ 20) ∧ 0 ≤ wh ∧ wh ≤ 1 → (12 < mSum (jBp σ) (σ 100 11).toNat → r = -4) ∧ (mSum (jBp σ) (σ 100 11).toNat ≤ 12 → ∃ best : Int, 0 ≤ best ∧ jBs σ mo best (2 ^ (mSum (jBp σ) (σ 100 11).toNat).toNat) ∧ r = if wh = 0 then mPop best else mSum (jStF σ best) (σ 100 11).toNat)) ∧ τ = σ)) (inA a) := by
  refine z_start rfl (Nat.le_of_ble_eq_true rfl) hI ?_
  intro p e s m below meth c ls C hr hlocks hl hP
  have hS : va_S (inA a) s.heap s.heap [] := va_S.rf
  have hl : lv_has ls 6 [(0, .ref (a 100)), (1, .int (iI mo)), (2, .int (iI wh))] := hl
  skip
  refine z_iload_n C hl 1 rfl dX8_calls_0 ?_
  refine z_i2l C ⟨by omega, by omega⟩ dX8_calls_1 ?_
  refine z_lconst C (z := 0) rfl dX8_calls_2 ?_
  refine z_ldc2 C (z := 20) wd_155 (by decide +kernel) dX8_calls_3 ?_
  refine z_sSi C hP (As := [.long (jI mo), .long (jI 0), .long (jI 20)]) lk_X8_86 (c_X8_in hI σ mo 0 20 ⟨by omega, by omega⟩ ⟨by omega, by omega⟩ ⟨by omega, by omega⟩) rfl hl.1 rfl (Nat.le_of_ble_eq_true rfl) ⟨Nat.le_of_ble_eq_true rfl, Nat.le_of_ble_eq_true rfl⟩ ⟨Nat.zero_le _, Nat.zero_le _⟩ dX8_calls_6 ?_
  by_cases b_6 : 0 ≤ mo ∧ mo ≤ 20
  · rw [show (if 0 ≤ mo ∧ mo ≤ 20 then (1 : Int) else 0) = 1 from if_pos b_6]
    refine z_ifF_eq C 22 dX8_calls_9 (by decide) ⟨by decide, by decide⟩ (by decide) ?_
    refine z_iload_n C hl 2 rfl dX8_calls_12 ?_
    refine z_i2l C ⟨by omega, by omega⟩ dX8_calls_13 ?_
    refine z_lconst C (z := 0) rfl dX8_calls_14 ?_
    refine z_lconst C (z := 1) rfl dX8_calls_15 ?_
    refine z_sSi C hP (As := [.long (jI wh), .long (jI 0), .long (jI 1)]) lk_X8_86 (c_X8_in hI σ wh 0 1 ⟨by omega, by omega⟩ ⟨by omega, by omega⟩ ⟨by omega, by omega⟩) rfl hl.1 rfl (Nat.le_of_ble_eq_true rfl) ⟨Nat.le_of_ble_eq_true rfl, Nat.le_of_ble_eq_true rfl⟩ ⟨Nat.zero_le _, Nat.zero_le _⟩ dX8_calls_16 ?_
    by_cases b_16 : 0 ≤ wh ∧ wh ≤ 1
    · rw [show (if 0 ≤ wh ∧ wh ≤ 1 then (1 : Int) else 0) = 1 from if_pos b_16]
      refine z_ifT_ne C 25 dX8_calls_19 (by decide) ⟨by decide, by decide⟩ (by decide) ?_
      refine z_aload_n C hl 0 rfl dX8_calls_25 ?_
      refine z_vSi C hP (As := []) lk_X8_275 (c_X8_bumps hI σ  hnm hch) ob_100 rfl rfl rfl hl.1 rfl (Nat.le_of_ble_eq_true rfl) ⟨Nat.le_of_ble_eq_true rfl, Nat.le_of_ble_eq_true rfl⟩ ⟨Nat.zero_le _, Nat.zero_le _⟩ dX8_calls_26 ?_
      have hbn := jBp_n σ (σ 100 11).toNat
      refine z_bipush C (by decide +kernel) dX8_calls_29 ?_
      refine z_icmp_le C 37 dX8_calls_31 (by decide) ⟨by omega, by omega⟩ ⟨by omega, by omega⟩ (fun c_31 => ?_) (fun c_31 => ?_)
      · have hp2 := p12 (mSum (jBp σ) (σ 100 11).toNat).toNat (by omega)
        refine z_bipush C (by decide +kernel) dX8_calls_37 ?_
        refine z_istore_n C [1, 2, 3, 0] [(0, .ref (a 100)), (1, .int (iI mo)), (2, .int (iI wh)), (3, .int (iI (-6)))] hl (by decide) rfl dX8_calls_39 (fun ls hl => ?_)
        refine z_iconst C dX8_calls_40 ?_
        refine z_istore C [1, 2, 3, 4, 0] [(0, .ref (a 100)), (1, .int (iI mo)), (2, .int (iI wh)), (3, .int (iI (-6))), (4, .int (iI 0))] hl (by decide) rfl dX8_calls_41 (fun ls hl => ?_)
        have L_43 : ∀ (n : Nat) (be : Int) (sb : Int) (τ : zS) (H : Heap) (locs : List Loc) (hP : GP D Y a τ H) (hS : va_S (inA a) s.heap H locs) (ls : Array Slot), (0 ≤ sb ∧ sb ≤ 2 ^ (mSum (jBp σ) (σ 100 11).toNat).toNat) → (jBs σ mo be sb) → (-6 ≤ be ∧ be < 4096) → (σ = τ) → ((2 ^ (mSum (jBp σ) (σ 100 11).toNat).toNat - sb).toNat) < n → lv_has ls 6 [(0, .ref (a 100)), (1, .int (iI mo)), (2, .int (iI wh)), (3, .int (iI be)), (4, .int (iI sb))] → W p l e (zR 2) s m ([.ref (a 100), .int (iI mo), .int (iI wh)] : List Value).toArray below meth c H locs 0 0 (MQ below (zQi D Y a (fun r τ => (¬ ((0 ≤ mo ∧ mo ≤ 20) ∧ 0 ≤ wh ∧ wh ≤ 1) → r = -2) ∧ ((0 ≤ mo ∧ mo ≤ 20) ∧ 0 ≤ wh ∧ wh ≤ 1 → (12 < mSum (jBp σ) (σ 100 11).toNat → r = -4) ∧ (mSum (jBp σ) (σ 100 11).toNat ≤ 12 → ∃ best : Int, 0 ≤ best ∧ jBs σ mo best (2 ^ (mSum (jBp σ) (σ 100 11).toNat).toNat) ∧ r = if wh = 0 then mPop best else mSum (jStF σ best) (σ 100 11).toNat)) ∧ τ = σ)) ([.ref (a 100), .int (iI mo), .int (iI wh)] : List Value).toArray s 0 0 (inA a)) (F0 m 43 ls []) := by
          intro n
          induction n with
          | zero =>
            intros; omega
          | succ n ih_43 =>
            intro be sb τ H locs hP hS ls ii ibs ibb iT hm hl
            subst iT
            refine z_iload C hl 4 rfl dX8_calls_43 ?_
            refine z_iconst C dX8_calls_45 ?_
            refine z_aload_n C hl 0 rfl dX8_calls_46 ?_
            refine z_vSi C hP (As := []) lk_X8_275 (c_X8_bumps hI σ  hnm hch) ob_100 rfl rfl rfl hl.1 rfl (Nat.le_of_ble_eq_true rfl) ⟨Nat.le_of_ble_eq_true rfl, Nat.le_of_ble_eq_true rfl⟩ ⟨Nat.zero_le _, Nat.zero_le _⟩ dX8_calls_47 ?_
            refine z_ishl C (2 ^ (mSum (jBp σ) (σ 100 11).toNat).toNat) (z_shl1 ⟨by omega, by omega⟩) dX8_calls_50 ?_
            refine z_icmp_ge C 105 dX8_calls_51 (by decide) ⟨by omega, by omega⟩ ⟨by omega, by omega⟩ (fun c_51 => ?_) (fun c_51 => ?_)
            · obtain ⟨hb0, hb1⟩ : 0 ≤ be ∧ be < 4096 := by (rcases ibs with h | h; (exact absurd (jBo_all hnm (by omega) (by omega)) (h.2 _ (by omega) (by omega))); (exact ⟨h.1, by omega⟩))
              refine z_iload_n C hl 2 rfl dX8_calls_105 ?_
              refine z_if_ne C 116 dX8_calls_106 (by decide) ⟨by omega, by omega⟩ (fun c_106 => ?_) (fun c_106 => ?_)
              · refine z_aload_n C hl 0 rfl dX8_calls_116 ?_
                refine z_iload_n C hl 3 rfl dX8_calls_117 ?_
                refine z_vSi C hP (As := [.int (iI be)]) lk_X8_282 (c_X8_stretchesOf hI σ be hnm hch ⟨by omega, by omega⟩) ob_100 rfl rfl rfl hl.1 rfl (Nat.le_of_ble_eq_true rfl) ⟨Nat.le_of_ble_eq_true rfl, Nat.le_of_ble_eq_true rfl⟩ ⟨Nat.zero_le _, Nat.zero_le _⟩ dX8_calls_118 ?_
                exact z_retQi C hP hS hr hlocks rfl (by exact ⟨fun h => (by exfalso; omega), fun _ => ⟨fun h => (by exfalso; omega), fun _ => ⟨be, hb0, (by rw [show (2 : Int) ^ (mSum (jBp σ) (σ 100 11).toNat).toNat = sb from (by omega)]; exact ibs), (by first | (rw [if_pos (by omega)]; done) | (rw [if_neg (by omega)]; done))⟩⟩, rfl⟩) dX8_calls_121
              · refine z_iload_n C hl 3 rfl dX8_calls_109 ?_
                refine z_sSi C hP (As := [.int (iI be)]) lk_X8_106 (c_X8_ones hI σ be ⟨by omega, by omega⟩) rfl hl.1 rfl (Nat.le_of_ble_eq_true rfl) ⟨Nat.le_of_ble_eq_true rfl, Nat.le_of_ble_eq_true rfl⟩ ⟨Nat.zero_le _, Nat.zero_le _⟩ dX8_calls_110 ?_
                refine z_goto C 121 dX8_calls_113 (by decide) ?_
                exact z_retQi C hP hS hr hlocks rfl (by exact ⟨fun h => (by exfalso; omega), fun _ => ⟨fun h => (by exfalso; omega), fun _ => ⟨be, hb0, (by rw [show (2 : Int) ^ (mSum (jBp σ) (σ 100 11).toNat).toNat = sb from (by omega)]; exact ibs), (by first | (rw [if_pos (by omega)]; done) | (rw [if_neg (by omega)]; done))⟩⟩, rfl⟩) dX8_calls_121
            · refine z_iload_n C hl 3 rfl dX8_calls_54 ?_
              refine z_if_lt C 70 dX8_calls_55 (by decide) ⟨by omega, by omega⟩ (fun c_55 => ?_) (fun c_55 => ?_)
              · refine z_iconst C dX8_calls_70 ?_
                refine z_goto C 75 dX8_calls_71 (by decide) ?_
                refine z_istore C [1, 2, 3, 4, 5, 0] [(0, .ref (a 100)), (1, .int (iI mo)), (2, .int (iI wh)), (3, .int (iI be)), (4, .int (iI sb)), (5, .int (iI 1))] hl (by decide) rfl dX8_calls_75 (fun ls hl => ?_)
                refine z_iload C hl 5 rfl dX8_calls_77 ?_
                refine z_ifF_eq C 97 dX8_calls_79 (by decide) ⟨by decide, by decide⟩ (by decide) ?_
                refine z_aload_n C hl 0 rfl dX8_calls_82 ?_
                refine z_iload C hl 4 rfl dX8_calls_83 ?_
                refine z_iload_n C hl 1 rfl dX8_calls_85 ?_
                refine z_vSi C hP (As := [.int (iI sb), .int (iI mo)]) lk_X8_278 (c_X8_isBorne hI σ sb mo hnm hch ⟨by omega, by omega⟩ ⟨by omega, by omega⟩) ob_100 rfl rfl rfl hl.1 rfl (Nat.le_of_ble_eq_true rfl) ⟨Nat.le_of_ble_eq_true rfl, Nat.le_of_ble_eq_true rfl⟩ ⟨Nat.zero_le _, Nat.zero_le _⟩ dX8_calls_86 ?_
                by_cases b_86 : jBo σ sb mo (σ 100 11)
                · rw [show (mB (jBo σ sb mo (σ 100 11))) = 1 from mB_t b_86]
                  refine z_ifF_eq C 97 dX8_calls_89 (by decide) ⟨by decide, by decide⟩ (by decide) ?_
                  refine z_iload C hl 4 rfl dX8_calls_92 ?_
                  refine z_goto C 98 dX8_calls_94 (by decide) ?_
                  refine z_istore_n C [1, 2, 3, 0, 4, 5] [(0, .ref (a 100)), (1, .int (iI mo)), (2, .int (iI wh)), (3, .int (iI sb)), (4, .int (iI sb)), (5, .int (iI 1))] hl (by decide) rfl dX8_calls_98 (fun ls hl => ?_)
                  refine z_iinc C 4 [1, 2, 3, 4, 0, 5] [(0, .ref (a 100)), (1, .int (iI mo)), (2, .int (iI wh)), (3, .int (iI sb)), (4, .int (iI (sb + 1))), (5, .int (iI 1))] hl rfl (by decide) rfl dX8_calls_99 (fun ls hl => ?_)
                  refine z_goto C 43 dX8_calls_102 (by decide) ?_
                  exact ih_43 sb (sb + 1) σ H locs hP hS ls (by omega) (by first | exact jBs_y ibs ii.1 (by omega) b_86 | exact jBs_n ibs ii.1 b_86 | exact jBs_m ibs ii.1 (by omega) (by omega)) (by omega) (by rfl) (by omega) (lv_sub hl [0, 1, 2, 3, 4] rfl)
                · rw [show (mB (jBo σ sb mo (σ 100 11))) = 0 from mB_f b_86]
                  refine z_ifT_eq C 97 dX8_calls_89 (by decide) ⟨by decide, by decide⟩ (by decide) ?_
                  refine z_iload_n C hl 3 rfl dX8_calls_97 ?_
                  refine z_istore_n C [1, 2, 3, 0, 4, 5] [(0, .ref (a 100)), (1, .int (iI mo)), (2, .int (iI wh)), (3, .int (iI be)), (4, .int (iI sb)), (5, .int (iI 1))] hl (by decide) rfl dX8_calls_98 (fun ls hl => ?_)
                  refine z_iinc C 4 [1, 2, 3, 4, 0, 5] [(0, .ref (a 100)), (1, .int (iI mo)), (2, .int (iI wh)), (3, .int (iI be)), (4, .int (iI (sb + 1))), (5, .int (iI 1))] hl rfl (by decide) rfl dX8_calls_99 (fun ls hl => ?_)
                  refine z_goto C 43 dX8_calls_102 (by decide) ?_
                  exact ih_43 be (sb + 1) σ H locs hP hS ls (by omega) (by first | exact jBs_y ibs ii.1 (by omega) b_86 | exact jBs_n ibs ii.1 b_86 | exact jBs_m ibs ii.1 (by omega) (by omega)) (by omega) (by rfl) (by omega) (lv_sub hl [0, 1, 2, 3, 4] rfl)
              · refine z_iload C hl 4 rfl dX8_calls_58 ?_
                refine z_sSi C hP (As := [.int (iI sb)]) lk_X8_106 (c_X8_ones hI σ sb ⟨by omega, by omega⟩) rfl hl.1 rfl (Nat.le_of_ble_eq_true rfl) ⟨Nat.le_of_ble_eq_true rfl, Nat.le_of_ble_eq_true rfl⟩ ⟨Nat.zero_le _, Nat.zero_le _⟩ dX8_calls_60 ?_
                have ho1 := @mPop_b sb
                refine z_iload_n C hl 3 rfl dX8_calls_63 ?_
                refine z_sSi C hP (As := [.int (iI be)]) lk_X8_106 (c_X8_ones hI σ be ⟨by omega, by omega⟩) rfl hl.1 rfl (Nat.le_of_ble_eq_true rfl) ⟨Nat.le_of_ble_eq_true rfl, Nat.le_of_ble_eq_true rfl⟩ ⟨Nat.zero_le _, Nat.zero_le _⟩ dX8_calls_64 ?_
                have ho2 := @mPop_b be
                refine z_icmp_ge C 74 dX8_calls_67 (by decide) ⟨by omega, by omega⟩ ⟨by omega, by omega⟩ (fun c_67 => ?_) (fun c_67 => ?_)
                · refine z_iconst C dX8_calls_74 ?_
                  refine z_istore C [1, 2, 3, 4, 5, 0] [(0, .ref (a 100)), (1, .int (iI mo)), (2, .int (iI wh)), (3, .int (iI be)), (4, .int (iI sb)), (5, .int (iI 0))] hl (by decide) rfl dX8_calls_75 (fun ls hl => ?_)
                  refine z_iload C hl 5 rfl dX8_calls_77 ?_
                  refine z_ifT_eq C 97 dX8_calls_79 (by decide) ⟨by decide, by decide⟩ (by decide) ?_
                  refine z_iload_n C hl 3 rfl dX8_calls_97 ?_
                  refine z_istore_n C [1, 2, 3, 0, 4, 5] [(0, .ref (a 100)), (1, .int (iI mo)), (2, .int (iI wh)), (3, .int (iI be)), (4, .int (iI sb)), (5, .int (iI 0))] hl (by decide) rfl dX8_calls_98 (fun ls hl => ?_)
                  refine z_iinc C 4 [1, 2, 3, 4, 0, 5] [(0, .ref (a 100)), (1, .int (iI mo)), (2, .int (iI wh)), (3, .int (iI be)), (4, .int (iI (sb + 1))), (5, .int (iI 0))] hl rfl (by decide) rfl dX8_calls_99 (fun ls hl => ?_)
                  refine z_goto C 43 dX8_calls_102 (by decide) ?_
                  exact ih_43 be (sb + 1) σ H locs hP hS ls (by omega) (by first | exact jBs_y ibs ii.1 (by omega) b_86 | exact jBs_n ibs ii.1 b_86 | exact jBs_m ibs ii.1 (by omega) (by omega)) (by omega) (by rfl) (by omega) (lv_sub hl [0, 1, 2, 3, 4] rfl)
                · refine z_iconst C dX8_calls_70 ?_
                  refine z_goto C 75 dX8_calls_71 (by decide) ?_
                  refine z_istore C [1, 2, 3, 4, 5, 0] [(0, .ref (a 100)), (1, .int (iI mo)), (2, .int (iI wh)), (3, .int (iI be)), (4, .int (iI sb)), (5, .int (iI 1))] hl (by decide) rfl dX8_calls_75 (fun ls hl => ?_)
                  refine z_iload C hl 5 rfl dX8_calls_77 ?_
                  refine z_ifF_eq C 97 dX8_calls_79 (by decide) ⟨by decide, by decide⟩ (by decide) ?_
                  refine z_aload_n C hl 0 rfl dX8_calls_82 ?_
                  refine z_iload C hl 4 rfl dX8_calls_83 ?_
                  refine z_iload_n C hl 1 rfl dX8_calls_85 ?_
                  refine z_vSi C hP (As := [.int (iI sb), .int (iI mo)]) lk_X8_278 (c_X8_isBorne hI σ sb mo hnm hch ⟨by omega, by omega⟩ ⟨by omega, by omega⟩) ob_100 rfl rfl rfl hl.1 rfl (Nat.le_of_ble_eq_true rfl) ⟨Nat.le_of_ble_eq_true rfl, Nat.le_of_ble_eq_true rfl⟩ ⟨Nat.zero_le _, Nat.zero_le _⟩ dX8_calls_86 ?_
                  by_cases b_86 : jBo σ sb mo (σ 100 11)
                  · rw [show (mB (jBo σ sb mo (σ 100 11))) = 1 from mB_t b_86]
                    refine z_ifF_eq C 97 dX8_calls_89 (by decide) ⟨by decide, by decide⟩ (by decide) ?_
                    refine z_iload C hl 4 rfl dX8_calls_92 ?_
                    refine z_goto C 98 dX8_calls_94 (by decide) ?_
                    refine z_istore_n C [1, 2, 3, 0, 4, 5] [(0, .ref (a 100)), (1, .int (iI mo)), (2, .int (iI wh)), (3, .int (iI sb)), (4, .int (iI sb)), (5, .int (iI 1))] hl (by decide) rfl dX8_calls_98 (fun ls hl => ?_)
                    refine z_iinc C 4 [1, 2, 3, 4, 0, 5] [(0, .ref (a 100)), (1, .int (iI mo)), (2, .int (iI wh)), (3, .int (iI sb)), (4, .int (iI (sb + 1))), (5, .int (iI 1))] hl rfl (by decide) rfl dX8_calls_99 (fun ls hl => ?_)
                    refine z_goto C 43 dX8_calls_102 (by decide) ?_
                    exact ih_43 sb (sb + 1) σ H locs hP hS ls (by omega) (by first | exact jBs_y ibs ii.1 (by omega) b_86 | exact jBs_n ibs ii.1 b_86 | exact jBs_m ibs ii.1 (by omega) (by omega)) (by omega) (by rfl) (by omega) (lv_sub hl [0, 1, 2, 3, 4] rfl)
                  · rw [show (mB (jBo σ sb mo (σ 100 11))) = 0 from mB_f b_86]
                    refine z_ifT_eq C 97 dX8_calls_89 (by decide) ⟨by decide, by decide⟩ (by decide) ?_
                    refine z_iload_n C hl 3 rfl dX8_calls_97 ?_
                    refine z_istore_n C [1, 2, 3, 0, 4, 5] [(0, .ref (a 100)), (1, .int (iI mo)), (2, .int (iI wh)), (3, .int (iI be)), (4, .int (iI sb)), (5, .int (iI 1))] hl (by decide) rfl dX8_calls_98 (fun ls hl => ?_)
                    refine z_iinc C 4 [1, 2, 3, 4, 0, 5] [(0, .ref (a 100)), (1, .int (iI mo)), (2, .int (iI wh)), (3, .int (iI be)), (4, .int (iI (sb + 1))), (5, .int (iI 1))] hl rfl (by decide) rfl dX8_calls_99 (fun ls hl => ?_)
                    refine z_goto C 43 dX8_calls_102 (by decide) ?_
                    exact ih_43 be (sb + 1) σ H locs hP hS ls (by omega) (by first | exact jBs_y ibs ii.1 (by omega) b_86 | exact jBs_n ibs ii.1 b_86 | exact jBs_m ibs ii.1 (by omega) (by omega)) (by omega) (by rfl) (by omega) (lv_sub hl [0, 1, 2, 3, 4] rfl)
        exact L_43 _ (-6) 0 σ _ _ hP hS ls (by omega) (by exact Or.inl ⟨rfl, fun s h1 h2 => (by omega)⟩) (by omega) (by rfl) (Nat.lt_succ_self _) (lv_sub hl [0, 1, 2, 3, 4] rfl)
      · refine z_bipush C (by decide +kernel) dX8_calls_34 ?_
        exact z_retQi C hP hS hr hlocks rfl (by exact ⟨fun h => (by exfalso; omega), fun _ => ⟨fun _ => rfl, fun h => (by exfalso; omega)⟩, rfl⟩) dX8_calls_36
    · rw [show (if 0 ≤ wh ∧ wh ≤ 1 then (1 : Int) else 0) = 0 from if_neg b_16]
      refine z_ifF_ne C 25 dX8_calls_19 (by decide) ⟨by decide, by decide⟩ (by decide) ?_
      refine z_bipush C (by decide +kernel) dX8_calls_22 ?_
      exact z_retQi C hP hS hr hlocks rfl (by exact ⟨fun _ => rfl, fun h => (by exfalso; omega), rfl⟩) dX8_calls_24
  · rw [show (if 0 ≤ mo ∧ mo ≤ 20 then (1 : Int) else 0) = 0 from if_neg b_6]
    refine z_ifT_eq C 22 dX8_calls_9 (by decide) ⟨by decide, by decide⟩ (by decide) ?_
    refine z_bipush C (by decide +kernel) dX8_calls_22 ?_
    exact z_retQi C hP hS hr hlocks rfl (by exact ⟨fun _ => rfl, fun h => (by exfalso; omega), rfl⟩) dX8_calls_24
