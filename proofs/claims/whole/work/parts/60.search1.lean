theorem ia_on {Y : Nat → ClassId} {a : Int → Nat} {k : Int} (h : k = 21 ∨ k = 22) : zIA Y a k 2100 := by
  rcases h with rfl | rfl
  · exact ia_21
  · exact ia_22
theorem ia_so {Y : Nat → ClassId} {a : Int → Nat} {k : Int} (h : k = 23 ∨ k = 24) : zIA Y a k 21 := by
  rcases h with rfl | rfl
  · exact ia_23
  · exact ia_24
def kLA (σ : zS) (hard n : Int) : Prop := ∀ c : Int, 0 ≤ c → c < n → (0 ≤ σ 17 c ∧ σ 17 c ≤ 4) ∧ (0 ≤ σ 18 c ∧ σ 18 c ≤ 4) ∧ σ 19 c = mSec hard (σ 16 (5 * σ 17 c + σ 18 c))
def kLE (σ : zS) (hard n e : Int) : Prop := ∃ c : Int, 0 ≤ c ∧ c < n ∧ σ 17 c ≤ e / 5 ∧ σ 18 c ≤ e % 5 ∧ σ 19 c = mSec hard (σ 16 e)
def kLF (σ τ : zS) : Prop := (∀ c : Int, c < 15 ∨ c = 16 ∨ 19 < c → τ c = σ c) ∧ ∀ j : Int, j ≠ 6 → τ 15 j = σ 15 j
def kLC (σ τ : zS) (hard : Int) : Prop := kLF σ τ ∧ (0 ≤ τ 15 6 ∧ τ 15 6 ≤ 25) ∧ kLA τ hard (τ 15 6) ∧ ∀ e : Int, 0 ≤ e → e < 25 → kLE τ hard (τ 15 6) e
theorem zU_ne2 {σ : zS} {k j v a b : Int} (h : ¬ (a = k ∧ b = j)) : zU σ k j v a b = σ a b := if_neg h
def kPut (τ : zS) (e v : Int) : zS := zU (zU (zU (zU τ 17 (τ 15 6) (e / 5)) 18 (τ 15 6) (e % 5)) 19 (τ 15 6) v) 15 6 (τ 15 6 + 1)
theorem kPut_F {σ τ : zS} {e v : Int} (h : kLF σ τ) : kLF σ (kPut τ e v) := by
  refine ⟨fun c hc => ?_, fun j hj => ?_⟩
  · unfold kPut
    rw [zU_cell (by omega), zU_cell (by omega), zU_cell (by omega), zU_cell (by omega)]
    exact h.1 c hc
  · unfold kPut
    rw [zU_ne2 (by omega), zU_cell (by decide), zU_cell (by decide), zU_cell (by decide)]
    exact h.2 j hj
theorem kPut_v (τ : zS) (e v : Int) : kPut τ e v 15 6 = τ 15 6 + 1 ∧ kPut τ e v 16 = τ 16 ∧ (∀ c : Int, kPut τ e v 17 c = if c = τ 15 6 then e / 5 else τ 17 c) ∧ (∀ c : Int, kPut τ e v 18 c = if c = τ 15 6 then e % 5 else τ 18 c) ∧ ∀ c : Int, kPut τ e v 19 c = if c = τ 15 6 then v else τ 19 c := by
  refine ⟨by unfold kPut; rw [zU_same], by unfold kPut; rw [zU_cell (by decide), zU_cell (by decide), zU_cell (by decide), zU_cell (by decide)], fun c => ?_, fun c => ?_, fun c => ?_⟩
  · unfold kPut
    rw [zU_cell (by decide), zU_cell (by decide), zU_cell (by decide)]
    unfold zU
    simp
  · unfold kPut
    rw [zU_cell (by decide), zU_cell (by decide)]
    unfold zU
    simp
  · unfold kPut
    rw [zU_cell (by decide)]
    unfold zU
    simp
theorem kPut_A {τ : zS} {hard e : Int} (hc : 0 ≤ τ 15 6) (he : 0 ≤ e ∧ e < 25) (h : kLA τ hard (τ 15 6)) : kLA (kPut τ e (mSec hard (τ 16 e))) hard (τ 15 6 + 1) := fun c h1 h2 => by
  have v := kPut_v τ e (mSec hard (τ 16 e))
  rw [v.2.1, v.2.2.1, v.2.2.2.1, v.2.2.2.2]
  by_cases hcc : c = τ 15 6
  · rw [if_pos hcc, if_pos hcc, if_pos hcc, show 5 * (e / 5) + e % 5 = e by omega]
    exact ⟨by omega, by omega, rfl⟩
  · rw [if_neg hcc, if_neg hcc, if_neg hcc]
    exact h c h1 (by omega)
theorem kPut_E {τ : zS} {hard e f : Int} (hc : 0 ≤ τ 15 6) (h : kLE τ hard (τ 15 6) f) : kLE (kPut τ e (mSec hard (τ 16 e))) hard (τ 15 6 + 1) f := by
  have v := kPut_v τ e (mSec hard (τ 16 e))
  obtain ⟨c, h1, h2, h3, h4, h5⟩ := h
  refine ⟨c, h1, by omega, ?_⟩
  rw [v.2.1, v.2.2.1, v.2.2.2.1, v.2.2.2.2, if_neg (by omega), if_neg (by omega), if_neg (by omega)]
  exact ⟨h3, h4, h5⟩
theorem kPut_N {τ : zS} {hard e : Int} (hc : 0 ≤ τ 15 6) : kLE (kPut τ e (mSec hard (τ 16 e))) hard (τ 15 6 + 1) e := by
  have v := kPut_v τ e (mSec hard (τ 16 e))
  refine ⟨τ 15 6, hc, by omega, ?_⟩
  rw [v.2.1, v.2.2.1, v.2.2.2.1, v.2.2.2.2, if_pos rfl, if_pos rfl, if_pos rfl]
  exact ⟨Int.le_refl _, Int.le_refl _, rfl⟩
theorem kLE_d {σ : zS} {hard n e f : Int} (h : kLE σ hard n f) (h1 : f / 5 ≤ e / 5) (h2 : f % 5 ≤ e % 5) (hs : mSec hard (σ 16 f) = mSec hard (σ 16 e)) : kLE σ hard n e := by
  obtain ⟨c, a1, a2, a3, a4, a5⟩ := h
  exact ⟨c, a1, a2, by omega, by omega, a5.trans hs⟩
set_option maxRecDepth 20000 in
set_option maxHeartbeats 4000000 in
theorem c_X5_listChoices {l : Launch} {D : va_G} {Y : Nat → ClassId} {a : Int → Nat} (hI : zI a) (σ : zS) (hard : Int) (hh : 20 ≤ hard ∧ hard ≤ 240) (hpt : ∀ e : Int, 0 ≤ e → e < 25 → 0 ≤ σ 16 e ∧ σ 16 e ≤ 160) : zMet l yX5_listChoices cX5_listChoices 4 none 2 (zPc D Y a σ [.ref (a 15), .int (iI hard)]) (zQv D Y a (fun τ => kLC σ τ hard)) (inA a) := by
  refine z_start rfl (Nat.le_of_ble_eq_true rfl) hI ?_
  intro p e s m below meth c ls C hr hlocks hl hP
  have hS : va_S (inA a) s.heap s.heap [] := va_S.rf
  have hl : lv_has ls 4 [(0, .ref (a 15)), (1, .int (iI hard))] := hl
  skip
  refine z_aload_n C hl 0 rfl dX5_listChoices_0 ?_
  refine z_iconst C dX5_listChoices_1 ?_
  refine zp_X5_111 C hP hS dX5_listChoices_2 (fun H locs hP hS => ?_)
  obtain ⟨t1, et1⟩ : ∃ z : zS, z = zU σ 15 6 0 := ⟨_, rfl⟩
  rw [← et1] at hP
  refine z_iconst C dX5_listChoices_5 ?_
  refine z_istore_n C [1, 2, 0] [(0, .ref (a 15)), (1, .int (iI hard)), (2, .int (iI 0))] hl (by decide) rfl dX5_listChoices_6 (fun ls hl => ?_)
  have L_7 : ∀ (n : Nat) (ee : Int) (τ : zS) (H : Heap) (locs : List Loc) (hP : GP D Y a τ H) (hS : va_S (inA a) s.heap H locs) (ls : Array Slot), (0 ≤ ee ∧ ee ≤ 25) → (kLF σ τ) → (0 ≤ τ 15 6 ∧ τ 15 6 ≤ ee) → (kLA τ hard (τ 15 6)) → (∀ f : Int, 0 ≤ f → f < ee → kLE τ hard (τ 15 6) f) → ((25 - ee).toNat) < n → lv_has ls 4 [(0, .ref (a 15)), (1, .int (iI hard)), (2, .int (iI ee))] → W p l e (zR 2) s m ([.ref (a 15), .int (iI hard)] : List Value).toArray below meth c H locs 0 0 (MQ below (zQv D Y a (fun τ => kLC σ τ hard)) ([.ref (a 15), .int (iI hard)] : List Value).toArray s 0 0 (inA a)) (F0 m 7 ls []) := by
    intro n
    induction n with
    | zero =>
      intros; omega
    | succ n ih_7 =>
      intro ee τ H locs hP hS ls ie fτ ic iA iE hm hl
      have hpe : ∀ e : Int, 0 ≤ e → e < 25 → 0 ≤ τ 16 e ∧ τ 16 e ≤ 160 := fun e h1 h2 => by rw [fτ.1 16 (by omega)]; exact hpt e h1 h2
      refine z_iload_n C hl 2 rfl dX5_listChoices_7 ?_
      refine z_bipush C (by decide +kernel) dX5_listChoices_8 ?_
      refine z_icmp_ge C 123 dX5_listChoices_10 (by decide) ⟨by omega, by omega⟩ ⟨by omega, by omega⟩ (fun c_10 => ?_) (fun c_10 => ?_)
      · exact z_retQv C hP hS hr hlocks (by exact ⟨fτ, (by omega), iA, fun e h1 h2 => iE e h1 (by omega)⟩) dX5_listChoices_123
      · have hp0 := hpe ee (by omega) (by omega)
        rw [fτ.1 16 (by omega)] at hp0
        refine z_iload_n C hl 1 rfl dX5_listChoices_13 ?_
        refine z_aload_n C hl 0 rfl dX5_listChoices_14 ?_
        refine zg_X5_9 C hP dX5_listChoices_15 ?_
        refine z_iload_n C hl 2 rfl dX5_listChoices_18 ?_
        refine z_iald C hP ia_16 ⟨by omega, by omega⟩ dX5_listChoices_19 ?_
        rw [show τ 16 ee = σ 16 ee from by rw [fτ.1 16 (by omega)]]
        refine z_sSi C hP (As := [.int (iI hard), .int (iI (σ 16 ee))]) lk_X5_114 (c_X0_secondsOf hI τ hard (σ 16 ee) (by omega) (by omega)) rfl hl.1 rfl (Nat.le_of_ble_eq_true rfl) ⟨Nat.le_of_ble_eq_true rfl, Nat.le_of_ble_eq_true rfl⟩ ⟨Nat.zero_le _, Nat.zero_le _⟩ dX5_listChoices_20 ?_
        have hs20 := mSec_b (h := hard) (t := σ 16 ee) (by omega)
        refine z_topi (fun x2 hx2 => ?_)
        refine z_istore_n C [1, 2, 3, 0] [(0, .ref (a 15)), (1, .int (iI hard)), (2, .int (iI ee)), (3, .int (iI x2))] hl (by decide) rfl dX5_listChoices_23 (fun ls hl => ?_)
        refine z_iload_n C hl 2 rfl dX5_listChoices_24 ?_
        refine z_iconst C dX5_listChoices_25 ?_
        refine z_icmp_lt C 48 dX5_listChoices_26 (by decide) ⟨by omega, by omega⟩ ⟨by omega, by omega⟩ (fun c_26 => ?_) (fun c_26 => ?_)
        · refine z_iload_n C hl 2 rfl dX5_listChoices_48 ?_
          refine z_iconst C dX5_listChoices_49 ?_
          refine z_irem C ⟨by omega, by omega, by omega, by omega⟩ dX5_listChoices_50 ?_
          refine z_if_le C 73 dX5_listChoices_51 (by decide) ⟨by omega, by omega⟩ (fun c_51 => ?_) (fun c_51 => ?_)
          · refine z_aload_n C hl 0 rfl dX5_listChoices_73 ?_
            refine zg_X5_15 C hP dX5_listChoices_74 ?_
            refine z_aload_n C hl 0 rfl dX5_listChoices_77 ?_
            refine zg_X5_111 C hP dX5_listChoices_78 ?_
            refine z_iload_n C hl 2 rfl dX5_listChoices_81 ?_
            refine z_iconst C dX5_listChoices_82 ?_
            refine z_idiv C ⟨by omega, by omega, by omega, by omega⟩ dX5_listChoices_83 ?_
            refine z_iast C hP hS ia_17 ⟨by omega, by omega⟩ dX5_listChoices_84 (fun H locs hP hS => ?_)
            obtain ⟨t3, et3⟩ : ∃ z : zS, z = zU τ 17 (τ 15 6) (ee / 5) := ⟨_, rfl⟩
            rw [← et3] at hP
            refine z_aload_n C hl 0 rfl dX5_listChoices_85 ?_
            refine zg_X5_18 C hP dX5_listChoices_86 ?_
            refine z_aload_n C hl 0 rfl dX5_listChoices_89 ?_
            refine zg_X5_111 C hP dX5_listChoices_90 ?_
            rw [show t3 15 6 = τ 15 6 from by rw [et3, zU_cell (by decide)]]
            refine z_iload_n C hl 2 rfl dX5_listChoices_93 ?_
            refine z_iconst C dX5_listChoices_94 ?_
            refine z_irem C ⟨by omega, by omega, by omega, by omega⟩ dX5_listChoices_95 ?_
            refine z_iast C hP hS ia_18 ⟨by omega, by omega⟩ dX5_listChoices_96 (fun H locs hP hS => ?_)
            obtain ⟨t4, et4⟩ : ∃ z : zS, z = zU t3 18 (τ 15 6) (ee % 5) := ⟨_, rfl⟩
            rw [← et4] at hP
            refine z_aload_n C hl 0 rfl dX5_listChoices_97 ?_
            refine zg_X5_21 C hP dX5_listChoices_98 ?_
            refine z_aload_n C hl 0 rfl dX5_listChoices_101 ?_
            refine zg_X5_111 C hP dX5_listChoices_102 ?_
            rw [show t4 15 6 = τ 15 6 from by rw [et4, zU_cell (by decide), et3, zU_cell (by decide)]]
            refine z_iload_n C hl 3 rfl dX5_listChoices_105 ?_
            refine z_iast C hP hS ia_19 ⟨by omega, by omega⟩ dX5_listChoices_106 (fun H locs hP hS => ?_)
            obtain ⟨t5, et5⟩ : ∃ z : zS, z = zU t4 19 (τ 15 6) x2 := ⟨_, rfl⟩
            rw [← et5] at hP
            refine z_aload_n C hl 0 rfl dX5_listChoices_107 ?_
            refine z_dup C rfl dX5_listChoices_108 ?_
            refine zg_X5_111 C hP dX5_listChoices_109 ?_
            rw [show t5 15 6 = τ 15 6 from by rw [et5, zU_cell (by decide), et4, zU_cell (by decide), et3, zU_cell (by decide)]]
            refine z_iconst C dX5_listChoices_112 ?_
            refine z_iadd C dX5_listChoices_113 ?_
            refine zp_X5_111 C hP hS dX5_listChoices_114 (fun H locs hP hS => ?_)
            obtain ⟨t6, et6⟩ : ∃ z : zS, z = zU t5 15 6 ((τ 15 6) + 1) := ⟨_, rfl⟩
            rw [← et6] at hP
            try have hkp : t6 = kPut τ ee (mSec hard (τ 16 ee)) := by rw [et6, et5, et4, et3, show mSec hard (τ 16 ee) = x2 from by rw [fτ.1 16 (by omega)]; exact hx2]; rfl
            refine z_iinc C 2 [1, 2, 0, 3] [(0, .ref (a 15)), (1, .int (iI hard)), (2, .int (iI (ee + 1))), (3, .int (iI x2))] hl rfl (by decide) rfl dX5_listChoices_117 (fun ls hl => ?_)
            refine z_goto C 7 dX5_listChoices_120 (by decide) ?_
            exact ih_7 (ee + 1) t6 H locs hP hS ls (by omega) (by first | exact fτ | (rw [hkp]; exact kPut_F fτ)) (by first | (rw [hkp, (kPut_v _ _ _).1]; omega) | omega) (by first | exact iA | (rw [hkp, (kPut_v _ _ _).1]; exact kPut_A ic.1 (by omega) iA)) (by intro f h1 h2; first | exact (if hf : f = ee then (by rw [hf]; exact kLE_d (iE (ee - 5) (by omega) (by omega)) (by omega) (by omega) (by rw [fτ.1 16 (by omega)]; omega)) else iE f h1 (by omega)) | exact (if hf : f = ee then (by rw [hf]; exact kLE_d (iE (ee - 1) (by omega) (by omega)) (by omega) (by omega) (by rw [fτ.1 16 (by omega)]; omega)) else iE f h1 (by omega)) | (rw [hkp, (kPut_v _ _ _).1]; exact (if hf : f = ee then (by rw [hf]; exact kPut_N ic.1) else kPut_E ic.1 (iE f h1 (by omega))))) (by omega) (lv_sub hl [0, 1, 2] rfl)
          · have hp1 := hpe (ee - 1) (by omega) (by omega)
            rw [fτ.1 16 (by omega)] at hp1
            refine z_iload_n C hl 1 rfl dX5_listChoices_54 ?_
            refine z_aload_n C hl 0 rfl dX5_listChoices_55 ?_
            refine zg_X5_9 C hP dX5_listChoices_56 ?_
            refine z_iload_n C hl 2 rfl dX5_listChoices_59 ?_
            refine z_iconst C dX5_listChoices_60 ?_
            refine z_isub C dX5_listChoices_61 ?_
            refine z_iald C hP ia_16 ⟨by omega, by omega⟩ dX5_listChoices_62 ?_
            rw [show τ 16 (ee - 1) = σ 16 (ee - 1) from by rw [fτ.1 16 (by omega)]]
            refine z_sSi C hP (As := [.int (iI hard), .int (iI (σ 16 (ee - 1)))]) lk_X5_114 (c_X0_secondsOf hI τ hard (σ 16 (ee - 1)) (by omega) (by omega)) rfl hl.1 rfl (Nat.le_of_ble_eq_true rfl) ⟨Nat.le_of_ble_eq_true rfl, Nat.le_of_ble_eq_true rfl⟩ ⟨Nat.zero_le _, Nat.zero_le _⟩ dX5_listChoices_63 ?_
            have hs63 := mSec_b (h := hard) (t := σ 16 (ee - 1)) (by omega)
            refine z_iload_n C hl 3 rfl dX5_listChoices_66 ?_
            refine z_icmp_ne C 73 dX5_listChoices_67 (by decide) ⟨by omega, by omega⟩ ⟨by omega, by omega⟩ (fun c_67 => ?_) (fun c_67 => ?_)
            · refine z_aload_n C hl 0 rfl dX5_listChoices_73 ?_
              refine zg_X5_15 C hP dX5_listChoices_74 ?_
              refine z_aload_n C hl 0 rfl dX5_listChoices_77 ?_
              refine zg_X5_111 C hP dX5_listChoices_78 ?_
              refine z_iload_n C hl 2 rfl dX5_listChoices_81 ?_
              refine z_iconst C dX5_listChoices_82 ?_
              refine z_idiv C ⟨by omega, by omega, by omega, by omega⟩ dX5_listChoices_83 ?_
              refine z_iast C hP hS ia_17 ⟨by omega, by omega⟩ dX5_listChoices_84 (fun H locs hP hS => ?_)
              obtain ⟨t7, et7⟩ : ∃ z : zS, z = zU τ 17 (τ 15 6) (ee / 5) := ⟨_, rfl⟩
              rw [← et7] at hP
              refine z_aload_n C hl 0 rfl dX5_listChoices_85 ?_
              refine zg_X5_18 C hP dX5_listChoices_86 ?_
              refine z_aload_n C hl 0 rfl dX5_listChoices_89 ?_
              refine zg_X5_111 C hP dX5_listChoices_90 ?_
              rw [show t7 15 6 = τ 15 6 from by rw [et7, zU_cell (by decide)]]
              refine z_iload_n C hl 2 rfl dX5_listChoices_93 ?_
              refine z_iconst C dX5_listChoices_94 ?_
              refine z_irem C ⟨by omega, by omega, by omega, by omega⟩ dX5_listChoices_95 ?_
              refine z_iast C hP hS ia_18 ⟨by omega, by omega⟩ dX5_listChoices_96 (fun H locs hP hS => ?_)
              obtain ⟨t8, et8⟩ : ∃ z : zS, z = zU t7 18 (τ 15 6) (ee % 5) := ⟨_, rfl⟩
              rw [← et8] at hP
              refine z_aload_n C hl 0 rfl dX5_listChoices_97 ?_
              refine zg_X5_21 C hP dX5_listChoices_98 ?_
              refine z_aload_n C hl 0 rfl dX5_listChoices_101 ?_
              refine zg_X5_111 C hP dX5_listChoices_102 ?_
              rw [show t8 15 6 = τ 15 6 from by rw [et8, zU_cell (by decide), et7, zU_cell (by decide)]]
              refine z_iload_n C hl 3 rfl dX5_listChoices_105 ?_
              refine z_iast C hP hS ia_19 ⟨by omega, by omega⟩ dX5_listChoices_106 (fun H locs hP hS => ?_)
              obtain ⟨t9, et9⟩ : ∃ z : zS, z = zU t8 19 (τ 15 6) x2 := ⟨_, rfl⟩
              rw [← et9] at hP
              refine z_aload_n C hl 0 rfl dX5_listChoices_107 ?_
              refine z_dup C rfl dX5_listChoices_108 ?_
              refine zg_X5_111 C hP dX5_listChoices_109 ?_
              rw [show t9 15 6 = τ 15 6 from by rw [et9, zU_cell (by decide), et8, zU_cell (by decide), et7, zU_cell (by decide)]]
              refine z_iconst C dX5_listChoices_112 ?_
              refine z_iadd C dX5_listChoices_113 ?_
              refine zp_X5_111 C hP hS dX5_listChoices_114 (fun H locs hP hS => ?_)
              obtain ⟨t10, et10⟩ : ∃ z : zS, z = zU t9 15 6 ((τ 15 6) + 1) := ⟨_, rfl⟩
              rw [← et10] at hP
              try have hkp : t10 = kPut τ ee (mSec hard (τ 16 ee)) := by rw [et10, et9, et8, et7, show mSec hard (τ 16 ee) = x2 from by rw [fτ.1 16 (by omega)]; exact hx2]; rfl
              refine z_iinc C 2 [1, 2, 0, 3] [(0, .ref (a 15)), (1, .int (iI hard)), (2, .int (iI (ee + 1))), (3, .int (iI x2))] hl rfl (by decide) rfl dX5_listChoices_117 (fun ls hl => ?_)
              refine z_goto C 7 dX5_listChoices_120 (by decide) ?_
              exact ih_7 (ee + 1) t10 H locs hP hS ls (by omega) (by first | exact fτ | (rw [hkp]; exact kPut_F fτ)) (by first | (rw [hkp, (kPut_v _ _ _).1]; omega) | omega) (by first | exact iA | (rw [hkp, (kPut_v _ _ _).1]; exact kPut_A ic.1 (by omega) iA)) (by intro f h1 h2; first | exact (if hf : f = ee then (by rw [hf]; exact kLE_d (iE (ee - 5) (by omega) (by omega)) (by omega) (by omega) (by rw [fτ.1 16 (by omega)]; omega)) else iE f h1 (by omega)) | exact (if hf : f = ee then (by rw [hf]; exact kLE_d (iE (ee - 1) (by omega) (by omega)) (by omega) (by omega) (by rw [fτ.1 16 (by omega)]; omega)) else iE f h1 (by omega)) | (rw [hkp, (kPut_v _ _ _).1]; exact (if hf : f = ee then (by rw [hf]; exact kPut_N ic.1) else kPut_E ic.1 (iE f h1 (by omega))))) (by omega) (lv_sub hl [0, 1, 2] rfl)
            · refine z_goto C 117 dX5_listChoices_70 (by decide) ?_
              try have hkp : τ = kPut τ ee (mSec hard (τ 16 ee)) := by rw [show mSec hard (τ 16 ee) = x2 from by rw [fτ.1 16 (by omega)]; exact hx2]; rfl
              refine z_iinc C 2 [1, 2, 0, 3] [(0, .ref (a 15)), (1, .int (iI hard)), (2, .int (iI (ee + 1))), (3, .int (iI x2))] hl rfl (by decide) rfl dX5_listChoices_117 (fun ls hl => ?_)
              refine z_goto C 7 dX5_listChoices_120 (by decide) ?_
              exact ih_7 (ee + 1) τ H locs hP hS ls (by omega) (by first | exact fτ | (rw [hkp]; exact kPut_F fτ)) (by first | (rw [hkp, (kPut_v _ _ _).1]; omega) | omega) (by first | exact iA | (rw [hkp, (kPut_v _ _ _).1]; exact kPut_A ic.1 (by omega) iA)) (by intro f h1 h2; first | exact (if hf : f = ee then (by rw [hf]; exact kLE_d (iE (ee - 5) (by omega) (by omega)) (by omega) (by omega) (by rw [fτ.1 16 (by omega)]; omega)) else iE f h1 (by omega)) | exact (if hf : f = ee then (by rw [hf]; exact kLE_d (iE (ee - 1) (by omega) (by omega)) (by omega) (by omega) (by rw [fτ.1 16 (by omega)]; omega)) else iE f h1 (by omega)) | (rw [hkp, (kPut_v _ _ _).1]; exact (if hf : f = ee then (by rw [hf]; exact kPut_N ic.1) else kPut_E ic.1 (iE f h1 (by omega))))) (by omega) (lv_sub hl [0, 1, 2] rfl)
        · have hp5 := hpe (ee - 5) (by omega) (by omega)
          rw [fτ.1 16 (by omega)] at hp5
          refine z_iload_n C hl 1 rfl dX5_listChoices_29 ?_
          refine z_aload_n C hl 0 rfl dX5_listChoices_30 ?_
          refine zg_X5_9 C hP dX5_listChoices_31 ?_
          refine z_iload_n C hl 2 rfl dX5_listChoices_34 ?_
          refine z_iconst C dX5_listChoices_35 ?_
          refine z_isub C dX5_listChoices_36 ?_
          refine z_iald C hP ia_16 ⟨by omega, by omega⟩ dX5_listChoices_37 ?_
          rw [show τ 16 (ee - 5) = σ 16 (ee - 5) from by rw [fτ.1 16 (by omega)]]
          refine z_sSi C hP (As := [.int (iI hard), .int (iI (σ 16 (ee - 5)))]) lk_X5_114 (c_X0_secondsOf hI τ hard (σ 16 (ee - 5)) (by omega) (by omega)) rfl hl.1 rfl (Nat.le_of_ble_eq_true rfl) ⟨Nat.le_of_ble_eq_true rfl, Nat.le_of_ble_eq_true rfl⟩ ⟨Nat.zero_le _, Nat.zero_le _⟩ dX5_listChoices_38 ?_
          have hs38 := mSec_b (h := hard) (t := σ 16 (ee - 5)) (by omega)
          refine z_iload_n C hl 3 rfl dX5_listChoices_41 ?_
          refine z_icmp_ne C 48 dX5_listChoices_42 (by decide) ⟨by omega, by omega⟩ ⟨by omega, by omega⟩ (fun c_42 => ?_) (fun c_42 => ?_)
          · refine z_iload_n C hl 2 rfl dX5_listChoices_48 ?_
            refine z_iconst C dX5_listChoices_49 ?_
            refine z_irem C ⟨by omega, by omega, by omega, by omega⟩ dX5_listChoices_50 ?_
            refine z_if_le C 73 dX5_listChoices_51 (by decide) ⟨by omega, by omega⟩ (fun c_51 => ?_) (fun c_51 => ?_)
            · refine z_aload_n C hl 0 rfl dX5_listChoices_73 ?_
              refine zg_X5_15 C hP dX5_listChoices_74 ?_
              refine z_aload_n C hl 0 rfl dX5_listChoices_77 ?_
              refine zg_X5_111 C hP dX5_listChoices_78 ?_
              refine z_iload_n C hl 2 rfl dX5_listChoices_81 ?_
              refine z_iconst C dX5_listChoices_82 ?_
              refine z_idiv C ⟨by omega, by omega, by omega, by omega⟩ dX5_listChoices_83 ?_
              refine z_iast C hP hS ia_17 ⟨by omega, by omega⟩ dX5_listChoices_84 (fun H locs hP hS => ?_)
              obtain ⟨t11, et11⟩ : ∃ z : zS, z = zU τ 17 (τ 15 6) (ee / 5) := ⟨_, rfl⟩
              rw [← et11] at hP
              refine z_aload_n C hl 0 rfl dX5_listChoices_85 ?_
              refine zg_X5_18 C hP dX5_listChoices_86 ?_
              refine z_aload_n C hl 0 rfl dX5_listChoices_89 ?_
              refine zg_X5_111 C hP dX5_listChoices_90 ?_
              rw [show t11 15 6 = τ 15 6 from by rw [et11, zU_cell (by decide)]]
              refine z_iload_n C hl 2 rfl dX5_listChoices_93 ?_
              refine z_iconst C dX5_listChoices_94 ?_
              refine z_irem C ⟨by omega, by omega, by omega, by omega⟩ dX5_listChoices_95 ?_
              refine z_iast C hP hS ia_18 ⟨by omega, by omega⟩ dX5_listChoices_96 (fun H locs hP hS => ?_)
              obtain ⟨t12, et12⟩ : ∃ z : zS, z = zU t11 18 (τ 15 6) (ee % 5) := ⟨_, rfl⟩
              rw [← et12] at hP
              refine z_aload_n C hl 0 rfl dX5_listChoices_97 ?_
              refine zg_X5_21 C hP dX5_listChoices_98 ?_
              refine z_aload_n C hl 0 rfl dX5_listChoices_101 ?_
              refine zg_X5_111 C hP dX5_listChoices_102 ?_
              rw [show t12 15 6 = τ 15 6 from by rw [et12, zU_cell (by decide), et11, zU_cell (by decide)]]
              refine z_iload_n C hl 3 rfl dX5_listChoices_105 ?_
              refine z_iast C hP hS ia_19 ⟨by omega, by omega⟩ dX5_listChoices_106 (fun H locs hP hS => ?_)
              obtain ⟨t13, et13⟩ : ∃ z : zS, z = zU t12 19 (τ 15 6) x2 := ⟨_, rfl⟩
              rw [← et13] at hP
              refine z_aload_n C hl 0 rfl dX5_listChoices_107 ?_
              refine z_dup C rfl dX5_listChoices_108 ?_
              refine zg_X5_111 C hP dX5_listChoices_109 ?_
              rw [show t13 15 6 = τ 15 6 from by rw [et13, zU_cell (by decide), et12, zU_cell (by decide), et11, zU_cell (by decide)]]
              refine z_iconst C dX5_listChoices_112 ?_
              refine z_iadd C dX5_listChoices_113 ?_
              refine zp_X5_111 C hP hS dX5_listChoices_114 (fun H locs hP hS => ?_)
              obtain ⟨t14, et14⟩ : ∃ z : zS, z = zU t13 15 6 ((τ 15 6) + 1) := ⟨_, rfl⟩
              rw [← et14] at hP
              try have hkp : t14 = kPut τ ee (mSec hard (τ 16 ee)) := by rw [et14, et13, et12, et11, show mSec hard (τ 16 ee) = x2 from by rw [fτ.1 16 (by omega)]; exact hx2]; rfl
              refine z_iinc C 2 [1, 2, 0, 3] [(0, .ref (a 15)), (1, .int (iI hard)), (2, .int (iI (ee + 1))), (3, .int (iI x2))] hl rfl (by decide) rfl dX5_listChoices_117 (fun ls hl => ?_)
              refine z_goto C 7 dX5_listChoices_120 (by decide) ?_
              exact ih_7 (ee + 1) t14 H locs hP hS ls (by omega) (by first | exact fτ | (rw [hkp]; exact kPut_F fτ)) (by first | (rw [hkp, (kPut_v _ _ _).1]; omega) | omega) (by first | exact iA | (rw [hkp, (kPut_v _ _ _).1]; exact kPut_A ic.1 (by omega) iA)) (by intro f h1 h2; first | exact (if hf : f = ee then (by rw [hf]; exact kLE_d (iE (ee - 5) (by omega) (by omega)) (by omega) (by omega) (by rw [fτ.1 16 (by omega)]; omega)) else iE f h1 (by omega)) | exact (if hf : f = ee then (by rw [hf]; exact kLE_d (iE (ee - 1) (by omega) (by omega)) (by omega) (by omega) (by rw [fτ.1 16 (by omega)]; omega)) else iE f h1 (by omega)) | (rw [hkp, (kPut_v _ _ _).1]; exact (if hf : f = ee then (by rw [hf]; exact kPut_N ic.1) else kPut_E ic.1 (iE f h1 (by omega))))) (by omega) (lv_sub hl [0, 1, 2] rfl)
            · have hp1 := hpe (ee - 1) (by omega) (by omega)
              rw [fτ.1 16 (by omega)] at hp1
              refine z_iload_n C hl 1 rfl dX5_listChoices_54 ?_
              refine z_aload_n C hl 0 rfl dX5_listChoices_55 ?_
              refine zg_X5_9 C hP dX5_listChoices_56 ?_
              refine z_iload_n C hl 2 rfl dX5_listChoices_59 ?_
              refine z_iconst C dX5_listChoices_60 ?_
              refine z_isub C dX5_listChoices_61 ?_
              refine z_iald C hP ia_16 ⟨by omega, by omega⟩ dX5_listChoices_62 ?_
              rw [show τ 16 (ee - 1) = σ 16 (ee - 1) from by rw [fτ.1 16 (by omega)]]
              refine z_sSi C hP (As := [.int (iI hard), .int (iI (σ 16 (ee - 1)))]) lk_X5_114 (c_X0_secondsOf hI τ hard (σ 16 (ee - 1)) (by omega) (by omega)) rfl hl.1 rfl (Nat.le_of_ble_eq_true rfl) ⟨Nat.le_of_ble_eq_true rfl, Nat.le_of_ble_eq_true rfl⟩ ⟨Nat.zero_le _, Nat.zero_le _⟩ dX5_listChoices_63 ?_
              have hs63 := mSec_b (h := hard) (t := σ 16 (ee - 1)) (by omega)
              refine z_iload_n C hl 3 rfl dX5_listChoices_66 ?_
              refine z_icmp_ne C 73 dX5_listChoices_67 (by decide) ⟨by omega, by omega⟩ ⟨by omega, by omega⟩ (fun c_67 => ?_) (fun c_67 => ?_)
              · refine z_aload_n C hl 0 rfl dX5_listChoices_73 ?_
                refine zg_X5_15 C hP dX5_listChoices_74 ?_
                refine z_aload_n C hl 0 rfl dX5_listChoices_77 ?_
                refine zg_X5_111 C hP dX5_listChoices_78 ?_
                refine z_iload_n C hl 2 rfl dX5_listChoices_81 ?_
                refine z_iconst C dX5_listChoices_82 ?_
                refine z_idiv C ⟨by omega, by omega, by omega, by omega⟩ dX5_listChoices_83 ?_
                refine z_iast C hP hS ia_17 ⟨by omega, by omega⟩ dX5_listChoices_84 (fun H locs hP hS => ?_)
                obtain ⟨t15, et15⟩ : ∃ z : zS, z = zU τ 17 (τ 15 6) (ee / 5) := ⟨_, rfl⟩
                rw [← et15] at hP
                refine z_aload_n C hl 0 rfl dX5_listChoices_85 ?_
                refine zg_X5_18 C hP dX5_listChoices_86 ?_
                refine z_aload_n C hl 0 rfl dX5_listChoices_89 ?_
                refine zg_X5_111 C hP dX5_listChoices_90 ?_
                rw [show t15 15 6 = τ 15 6 from by rw [et15, zU_cell (by decide)]]
                refine z_iload_n C hl 2 rfl dX5_listChoices_93 ?_
                refine z_iconst C dX5_listChoices_94 ?_
                refine z_irem C ⟨by omega, by omega, by omega, by omega⟩ dX5_listChoices_95 ?_
                refine z_iast C hP hS ia_18 ⟨by omega, by omega⟩ dX5_listChoices_96 (fun H locs hP hS => ?_)
                obtain ⟨t16, et16⟩ : ∃ z : zS, z = zU t15 18 (τ 15 6) (ee % 5) := ⟨_, rfl⟩
                rw [← et16] at hP
                refine z_aload_n C hl 0 rfl dX5_listChoices_97 ?_
                refine zg_X5_21 C hP dX5_listChoices_98 ?_
                refine z_aload_n C hl 0 rfl dX5_listChoices_101 ?_
                refine zg_X5_111 C hP dX5_listChoices_102 ?_
                rw [show t16 15 6 = τ 15 6 from by rw [et16, zU_cell (by decide), et15, zU_cell (by decide)]]
                refine z_iload_n C hl 3 rfl dX5_listChoices_105 ?_
                refine z_iast C hP hS ia_19 ⟨by omega, by omega⟩ dX5_listChoices_106 (fun H locs hP hS => ?_)
                obtain ⟨t17, et17⟩ : ∃ z : zS, z = zU t16 19 (τ 15 6) x2 := ⟨_, rfl⟩
                rw [← et17] at hP
                refine z_aload_n C hl 0 rfl dX5_listChoices_107 ?_
                refine z_dup C rfl dX5_listChoices_108 ?_
                refine zg_X5_111 C hP dX5_listChoices_109 ?_
                rw [show t17 15 6 = τ 15 6 from by rw [et17, zU_cell (by decide), et16, zU_cell (by decide), et15, zU_cell (by decide)]]
                refine z_iconst C dX5_listChoices_112 ?_
                refine z_iadd C dX5_listChoices_113 ?_
                refine zp_X5_111 C hP hS dX5_listChoices_114 (fun H locs hP hS => ?_)
                obtain ⟨t18, et18⟩ : ∃ z : zS, z = zU t17 15 6 ((τ 15 6) + 1) := ⟨_, rfl⟩
                rw [← et18] at hP
                try have hkp : t18 = kPut τ ee (mSec hard (τ 16 ee)) := by rw [et18, et17, et16, et15, show mSec hard (τ 16 ee) = x2 from by rw [fτ.1 16 (by omega)]; exact hx2]; rfl
                refine z_iinc C 2 [1, 2, 0, 3] [(0, .ref (a 15)), (1, .int (iI hard)), (2, .int (iI (ee + 1))), (3, .int (iI x2))] hl rfl (by decide) rfl dX5_listChoices_117 (fun ls hl => ?_)
                refine z_goto C 7 dX5_listChoices_120 (by decide) ?_
                exact ih_7 (ee + 1) t18 H locs hP hS ls (by omega) (by first | exact fτ | (rw [hkp]; exact kPut_F fτ)) (by first | (rw [hkp, (kPut_v _ _ _).1]; omega) | omega) (by first | exact iA | (rw [hkp, (kPut_v _ _ _).1]; exact kPut_A ic.1 (by omega) iA)) (by intro f h1 h2; first | exact (if hf : f = ee then (by rw [hf]; exact kLE_d (iE (ee - 5) (by omega) (by omega)) (by omega) (by omega) (by rw [fτ.1 16 (by omega)]; omega)) else iE f h1 (by omega)) | exact (if hf : f = ee then (by rw [hf]; exact kLE_d (iE (ee - 1) (by omega) (by omega)) (by omega) (by omega) (by rw [fτ.1 16 (by omega)]; omega)) else iE f h1 (by omega)) | (rw [hkp, (kPut_v _ _ _).1]; exact (if hf : f = ee then (by rw [hf]; exact kPut_N ic.1) else kPut_E ic.1 (iE f h1 (by omega))))) (by omega) (lv_sub hl [0, 1, 2] rfl)
              · refine z_goto C 117 dX5_listChoices_70 (by decide) ?_
                try have hkp : τ = kPut τ ee (mSec hard (τ 16 ee)) := by rw [show mSec hard (τ 16 ee) = x2 from by rw [fτ.1 16 (by omega)]; exact hx2]; rfl
                refine z_iinc C 2 [1, 2, 0, 3] [(0, .ref (a 15)), (1, .int (iI hard)), (2, .int (iI (ee + 1))), (3, .int (iI x2))] hl rfl (by decide) rfl dX5_listChoices_117 (fun ls hl => ?_)
                refine z_goto C 7 dX5_listChoices_120 (by decide) ?_
                exact ih_7 (ee + 1) τ H locs hP hS ls (by omega) (by first | exact fτ | (rw [hkp]; exact kPut_F fτ)) (by first | (rw [hkp, (kPut_v _ _ _).1]; omega) | omega) (by first | exact iA | (rw [hkp, (kPut_v _ _ _).1]; exact kPut_A ic.1 (by omega) iA)) (by intro f h1 h2; first | exact (if hf : f = ee then (by rw [hf]; exact kLE_d (iE (ee - 5) (by omega) (by omega)) (by omega) (by omega) (by rw [fτ.1 16 (by omega)]; omega)) else iE f h1 (by omega)) | exact (if hf : f = ee then (by rw [hf]; exact kLE_d (iE (ee - 1) (by omega) (by omega)) (by omega) (by omega) (by rw [fτ.1 16 (by omega)]; omega)) else iE f h1 (by omega)) | (rw [hkp, (kPut_v _ _ _).1]; exact (if hf : f = ee then (by rw [hf]; exact kPut_N ic.1) else kPut_E ic.1 (iE f h1 (by omega))))) (by omega) (lv_sub hl [0, 1, 2] rfl)
          · refine z_goto C 117 dX5_listChoices_45 (by decide) ?_
            try have hkp : τ = kPut τ ee (mSec hard (τ 16 ee)) := by rw [show mSec hard (τ 16 ee) = x2 from by rw [fτ.1 16 (by omega)]; exact hx2]; rfl
            refine z_iinc C 2 [1, 2, 0, 3] [(0, .ref (a 15)), (1, .int (iI hard)), (2, .int (iI (ee + 1))), (3, .int (iI x2))] hl rfl (by decide) rfl dX5_listChoices_117 (fun ls hl => ?_)
            refine z_goto C 7 dX5_listChoices_120 (by decide) ?_
            exact ih_7 (ee + 1) τ H locs hP hS ls (by omega) (by first | exact fτ | (rw [hkp]; exact kPut_F fτ)) (by first | (rw [hkp, (kPut_v _ _ _).1]; omega) | omega) (by first | exact iA | (rw [hkp, (kPut_v _ _ _).1]; exact kPut_A ic.1 (by omega) iA)) (by intro f h1 h2; first | exact (if hf : f = ee then (by rw [hf]; exact kLE_d (iE (ee - 5) (by omega) (by omega)) (by omega) (by omega) (by rw [fτ.1 16 (by omega)]; omega)) else iE f h1 (by omega)) | exact (if hf : f = ee then (by rw [hf]; exact kLE_d (iE (ee - 1) (by omega) (by omega)) (by omega) (by omega) (by rw [fτ.1 16 (by omega)]; omega)) else iE f h1 (by omega)) | (rw [hkp, (kPut_v _ _ _).1]; exact (if hf : f = ee then (by rw [hf]; exact kPut_N ic.1) else kPut_E ic.1 (iE f h1 (by omega))))) (by omega) (lv_sub hl [0, 1, 2] rfl)
  exact L_7 _ 0 t1 _ _ hP hS ls (by omega) (by subst et1; exact ⟨fun c hc => zU_cell (by omega), fun j hj => zU_ne2 (by omega)⟩) (by rw [et1, zU_same]; decide) (by intro c h1 h2; rw [et1, zU_same] at h2; omega) (by intro f h1 h2; omega) (Nat.lt_succ_self _) (lv_sub hl [0, 1, 2] rfl)

def kFO (σ : zS) (hb x y lim c : Int) : Int := if mWind (σ 15 13) x (σ 17 c) < 0 ∨ mWind (σ 15 14) y (σ 18 c) < 0 then lim else σ 19 c + σ (σ 15 8) (mCell hb (mWind (σ 15 13) x (σ 17 c)) (mWind (σ 15 14) y (σ 18 c)))
set_option maxRecDepth 20000 in
set_option maxHeartbeats 4000000 in
theorem c_X5_fewestOnward {l : Launch} {D : va_G} {Y : Nat → ClassId} {a : Int → Nat} (hI : zI a) (σ : zS) (hb x y lim : Int) (hw1 : 0 ≤ σ 15 13 ∧ σ 15 13 ≤ 9) (hw2 : 0 ≤ σ 15 14 ∧ σ 15 14 ≤ 9) (hbf : (σ 15 8 = 21 ∧ σ 15 9 = 22) ∨ (σ 15 8 = 22 ∧ σ 15 9 = 21)) (hho : 5 ≤ σ 15 12 ∧ σ 15 12 ≤ 20) (hhb : 0 ≤ hb ∧ hb ≤ 25) (hx : 0 ≤ x ∧ x ≤ 9) (hy : 0 ≤ y ∧ y ≤ 9) (hli : 0 ≤ lim ∧ lim ≤ 1100000000) (hcc : 0 ≤ σ 15 6 ∧ σ 15 6 ≤ 25) (hca : ∀ c : Int, 0 ≤ c → c < σ 15 6 → (0 ≤ σ 17 c ∧ σ 17 c ≤ 4) ∧ (0 ≤ σ 18 c ∧ σ 18 c ≤ 4) ∧ 0 ≤ σ 19 c ∧ σ 19 c ≤ 1000) (hb1 : jBd σ 21) (hb2 : jBd σ 22) : zMet l yX5_fewestOnward cX5_fewestOnward 9 (some .int) 2 (zPc D Y a σ [.ref (a 15), .int (iI hb), .int (iI x), .int (iI y), .int (iI lim)]) (zSi (if σ 15 12 < hb then lim else mMnS lim (kFO σ hb x y lim) (σ 15 6).toNat)) zNo := by
  refine z_start rfl (Nat.le_of_ble_eq_true rfl) hI ?_
  intro p e s m below meth c ls C hr hlocks hl hP
  have hl : lv_has ls 9 [(0, .ref (a 15)), (1, .int (iI hb)), (2, .int (iI x)), (3, .int (iI y)), (4, .int (iI lim))] := hl
  refine z_iload_n C hl 1 rfl dX5_fewestOnward_0 ?_
  refine z_aload_n C hl 0 rfl dX5_fewestOnward_1 ?_
  refine zg_X5_45 C hP dX5_fewestOnward_2 ?_
  refine z_icmp_le C 11 dX5_fewestOnward_5 (by decide) ⟨by omega, by omega⟩ ⟨by omega, by omega⟩ (fun c_5 => ?_) (fun c_5 => ?_)
  · refine z_iload C hl 4 rfl dX5_fewestOnward_11 ?_
    refine z_istore C [1, 2, 3, 4, 5, 0] [(0, .ref (a 15)), (1, .int (iI hb)), (2, .int (iI x)), (3, .int (iI y)), (4, .int (iI lim)), (5, .int (iI lim))] hl (by decide) rfl dX5_fewestOnward_13 (fun ls hl => ?_)
    refine z_iconst C dX5_fewestOnward_15 ?_
    refine z_istore C [1, 2, 3, 4, 5, 6, 0] [(0, .ref (a 15)), (1, .int (iI hb)), (2, .int (iI x)), (3, .int (iI y)), (4, .int (iI lim)), (5, .int (iI lim)), (6, .int (iI 0))] hl (by decide) rfl dX5_fewestOnward_16 (fun ls hl => ?_)
    have L_18 : ∀ (n : Nat) (le : Int) (c0 : Int) (ls : Array Slot), (0 ≤ c0 ∧ c0 ≤ σ 15 6) → (le = mMnS lim (kFO σ hb x y lim) c0.toNat) → (0 ≤ le ∧ le ≤ lim) → ((σ 15 6 - c0).toNat) < n → lv_has ls 9 [(0, .ref (a 15)), (1, .int (iI hb)), (2, .int (iI x)), (3, .int (iI y)), (4, .int (iI lim)), (5, .int (iI le)), (6, .int (iI c0))] → W p l e (zR 2) s m ([.ref (a 15), .int (iI hb), .int (iI x), .int (iI y), .int (iI lim)] : List Value).toArray below meth c s.heap [] 0 0 (MQ below (zSi (if σ 15 12 < hb then lim else mMnS lim (kFO σ hb x y lim) (σ 15 6).toNat)) ([.ref (a 15), .int (iI hb), .int (iI x), .int (iI y), .int (iI lim)] : List Value).toArray s 0 0 zNo) (F0 m 18 ls []) := by
      intro n
      induction n with
      | zero =>
        intros; omega
      | succ n ih_18 =>
        intro le c0 ls ii iv ib hm hl
        refine z_iload C hl 6 rfl dX5_fewestOnward_18 ?_
        refine z_aload_n C hl 0 rfl dX5_fewestOnward_20 ?_
        refine zg_X5_111 C hP dX5_fewestOnward_21 ?_
        refine z_icmp_ge C 108 dX5_fewestOnward_24 (by decide) ⟨by omega, by omega⟩ ⟨by omega, by omega⟩ (fun c_24 => ?_) (fun c_24 => ?_)
        · refine z_iload C hl 5 rfl dX5_fewestOnward_108 ?_
          exact z_retSi C hr hlocks rfl (by rw [if_neg (by omega), iv, show c0 = σ 15 6 from (by omega)]) dX5_fewestOnward_110
        · refine z_aload_n C hl 0 rfl dX5_fewestOnward_27 ?_
          refine zg_X5_51 C hP dX5_fewestOnward_28 ?_
          refine z_iload_n C hl 2 rfl dX5_fewestOnward_31 ?_
          refine z_aload_n C hl 0 rfl dX5_fewestOnward_32 ?_
          refine zg_X5_15 C hP dX5_fewestOnward_33 ?_
          refine z_iload C hl 6 rfl dX5_fewestOnward_36 ?_
          refine z_iald C hP ia_17 ⟨by omega, by omega⟩ dX5_fewestOnward_38 ?_
          refine z_sSi C hP (As := [.int (iI (σ 15 13)), .int (iI x), .int (iI (σ 17 c0))]) lk_X5_117 (c_X4_windBehind hI σ (σ 15 13) x (σ 17 c0) hw1 ⟨by omega, by omega⟩ (hca c0 (by omega) (by omega)).1) rfl hl.1 rfl (Nat.le_of_ble_eq_true rfl) ⟨Nat.le_of_ble_eq_true rfl, Nat.le_of_ble_eq_true rfl⟩ ⟨Nat.zero_le _, Nat.zero_le _⟩ dX5_fewestOnward_39 ?_
          have w1 := mWind_b (now := x) (e := σ 17 c0) hw1 hx (hca c0 (by omega) (by omega)).1
          refine z_topi (fun x1 hx1 => ?_)
          refine z_istore C [1, 2, 3, 4, 5, 6, 7, 0] [(0, .ref (a 15)), (1, .int (iI hb)), (2, .int (iI x)), (3, .int (iI y)), (4, .int (iI lim)), (5, .int (iI le)), (6, .int (iI c0)), (7, .int (iI x1))] hl (by decide) rfl dX5_fewestOnward_42 (fun ls hl => ?_)
          refine z_aload_n C hl 0 rfl dX5_fewestOnward_44 ?_
          refine zg_X5_54 C hP dX5_fewestOnward_45 ?_
          refine z_iload_n C hl 3 rfl dX5_fewestOnward_48 ?_
          refine z_aload_n C hl 0 rfl dX5_fewestOnward_49 ?_
          refine zg_X5_18 C hP dX5_fewestOnward_50 ?_
          refine z_iload C hl 6 rfl dX5_fewestOnward_53 ?_
          refine z_iald C hP ia_18 ⟨by omega, by omega⟩ dX5_fewestOnward_55 ?_
          refine z_sSi C hP (As := [.int (iI (σ 15 14)), .int (iI y), .int (iI (σ 18 c0))]) lk_X5_117 (c_X4_windBehind hI σ (σ 15 14) y (σ 18 c0) hw2 ⟨by omega, by omega⟩ (hca c0 (by omega) (by omega)).2.1) rfl hl.1 rfl (Nat.le_of_ble_eq_true rfl) ⟨Nat.le_of_ble_eq_true rfl, Nat.le_of_ble_eq_true rfl⟩ ⟨Nat.zero_le _, Nat.zero_le _⟩ dX5_fewestOnward_56 ?_
          have w2 := mWind_b (now := y) (e := σ 18 c0) hw2 hy (hca c0 (by omega) (by omega)).2.1
          refine z_topi (fun x2 hx2 => ?_)
          refine z_istore C [1, 2, 3, 4, 5, 6, 7, 8, 0] [(0, .ref (a 15)), (1, .int (iI hb)), (2, .int (iI x)), (3, .int (iI y)), (4, .int (iI lim)), (5, .int (iI le)), (6, .int (iI c0)), (7, .int (iI x1)), (8, .int (iI x2))] hl (by decide) rfl dX5_fewestOnward_59 (fun ls hl => ?_)
          refine z_iload C hl 7 rfl dX5_fewestOnward_61 ?_
          refine z_if_lt C 102 dX5_fewestOnward_63 (by decide) ⟨by omega, by omega⟩ (fun c_63 => ?_) (fun c_63 => ?_)
          · refine z_iinc C 6 [1, 2, 3, 4, 5, 6, 0, 7, 8] [(0, .ref (a 15)), (1, .int (iI hb)), (2, .int (iI x)), (3, .int (iI y)), (4, .int (iI lim)), (5, .int (iI le)), (6, .int (iI (c0 + 1))), (7, .int (iI x1)), (8, .int (iI x2))] hl rfl (by decide) rfl dX5_fewestOnward_102 (fun ls hl => ?_)
            refine z_goto C 18 dX5_fewestOnward_105 (by decide) ?_
            exact ih_18 le (c0 + 1) ls (by omega) (by rw [mMnS_s _ _ ii.1, ← iv]; unfold kFO; rw [hx1, hx2]; first | (rw [if_pos (by omega)]; omega) | (rw [if_neg (by omega)]; omega)) (by omega) (by omega) (lv_sub hl [0, 1, 2, 3, 4, 5, 6] rfl)
          · refine z_iload C hl 8 rfl dX5_fewestOnward_66 ?_
            refine z_if_ge C 74 dX5_fewestOnward_68 (by decide) ⟨by omega, by omega⟩ (fun c_68 => ?_) (fun c_68 => ?_)
            · have hcb := hca c0 (by omega) (by omega)
              have hmc : 0 ≤ mCell hb x1 x2 ∧ mCell hb x1 x2 < 2100 := by unfold mCell; omega
              have hov : 0 ≤ σ (σ 15 8) (mCell hb x1 x2) ∧ σ (σ 15 8) (mCell hb x1 x2) ≤ 1000000 := by (rcases hbf with h | h <;> rw [h.1]); exact hb1 _ hmc.1 hmc.2; exact hb2 _ hmc.1 hmc.2
              refine z_iload C hl 5 rfl dX5_fewestOnward_74 ?_
              refine z_aload_n C hl 0 rfl dX5_fewestOnward_76 ?_
              refine zg_X5_21 C hP dX5_fewestOnward_77 ?_
              refine z_iload C hl 6 rfl dX5_fewestOnward_80 ?_
              refine z_iald C hP ia_19 ⟨by omega, by omega⟩ dX5_fewestOnward_82 ?_
              refine z_aload_n C hl 0 rfl dX5_fewestOnward_83 ?_
              refine zg_X5_27 C hP dX5_fewestOnward_84 ?_
              refine z_iload_n C hl 1 rfl dX5_fewestOnward_87 ?_
              refine z_iload C hl 7 rfl dX5_fewestOnward_88 ?_
              refine z_iload C hl 8 rfl dX5_fewestOnward_90 ?_
              refine z_sSi C hP (As := [.int (iI hb), .int (iI x1), .int (iI x2)]) lk_X5_107 (c_X5_cellOf hI σ hb x1 x2 ) rfl hl.1 rfl (Nat.le_of_ble_eq_true rfl) ⟨Nat.le_of_ble_eq_true rfl, Nat.le_of_ble_eq_true rfl⟩ ⟨Nat.zero_le _, Nat.zero_le _⟩ dX5_fewestOnward_92 ?_
              refine z_iald C hP (ia_on (by omega)) ⟨by omega, by omega⟩ dX5_fewestOnward_95 ?_
              refine z_iadd C dX5_fewestOnward_96 ?_
              refine z_min C ⟨by omega, by omega⟩ ⟨by omega, by omega⟩ wd_533 hl.1 ⟨(Nat.le_of_ble_eq_true rfl), (Nat.le_of_ble_eq_true rfl)⟩ ⟨Nat.zero_le _, Nat.zero_le _⟩ dX5_fewestOnward_97 ?_
              refine z_topi (fun x3 hx3 => ?_)
              refine z_istore C [1, 2, 3, 4, 5, 0, 6, 7, 8] [(0, .ref (a 15)), (1, .int (iI hb)), (2, .int (iI x)), (3, .int (iI y)), (4, .int (iI lim)), (5, .int (iI x3)), (6, .int (iI c0)), (7, .int (iI x1)), (8, .int (iI x2))] hl (by decide) rfl dX5_fewestOnward_100 (fun ls hl => ?_)
              refine z_iinc C 6 [1, 2, 3, 4, 5, 6, 0, 7, 8] [(0, .ref (a 15)), (1, .int (iI hb)), (2, .int (iI x)), (3, .int (iI y)), (4, .int (iI lim)), (5, .int (iI x3)), (6, .int (iI (c0 + 1))), (7, .int (iI x1)), (8, .int (iI x2))] hl rfl (by decide) rfl dX5_fewestOnward_102 (fun ls hl => ?_)
              refine z_goto C 18 dX5_fewestOnward_105 (by decide) ?_
              exact ih_18 x3 (c0 + 1) ls (by omega) (by rw [mMnS_s _ _ ii.1, ← iv]; unfold kFO; rw [hx1, hx2]; first | (rw [if_pos (by omega)]; omega) | (rw [if_neg (by omega)]; omega)) (by omega) (by omega) (lv_sub hl [0, 1, 2, 3, 4, 5, 6] rfl)
            · refine z_goto C 102 dX5_fewestOnward_71 (by decide) ?_
              refine z_iinc C 6 [1, 2, 3, 4, 5, 6, 0, 7, 8] [(0, .ref (a 15)), (1, .int (iI hb)), (2, .int (iI x)), (3, .int (iI y)), (4, .int (iI lim)), (5, .int (iI le)), (6, .int (iI (c0 + 1))), (7, .int (iI x1)), (8, .int (iI x2))] hl rfl (by decide) rfl dX5_fewestOnward_102 (fun ls hl => ?_)
              refine z_goto C 18 dX5_fewestOnward_105 (by decide) ?_
              exact ih_18 le (c0 + 1) ls (by omega) (by rw [mMnS_s _ _ ii.1, ← iv]; unfold kFO; rw [hx1, hx2]; first | (rw [if_pos (by omega)]; omega) | (rw [if_neg (by omega)]; omega)) (by omega) (by omega) (lv_sub hl [0, 1, 2, 3, 4, 5, 6] rfl)
    exact L_18 _ lim 0 ls (by omega) (by rfl) (by omega) (Nat.lt_succ_self _) (lv_sub hl [0, 1, 2, 3, 4, 5, 6] rfl)
  · refine z_iload C hl 4 rfl dX5_fewestOnward_8 ?_
    exact z_retSi C hr hlocks rfl (by rw [if_pos (by omega)]) dX5_fewestOnward_10

def kTs (σ : zS) (p1 p2 e b : Int) : Int := mTread (σ p1 1) (σ p1 2) (e / 5) b + mTread (σ p2 1) (σ p2 2) (e % 5) b
def kLb (σ : zS) (hard sec p1 p2 e b : Int) : Prop := (4 ≤ b ∧ b ≤ 10) ∧ (b = 10 ∨ mSec hard (kTs σ p1 p2 e b) = sec) ∧ ∀ j : Int, 4 ≤ j → j < b → mSec hard (kTs σ p1 p2 e j) ≠ sec
set_option maxRecDepth 20000 in
set_option maxHeartbeats 4000000 in
theorem c_X5_leastBeatFor {l : Launch} {D : va_G} {Y : Nat → ClassId} {a : Int → Nat} (hI : zI a) (σ : zS) (ee hard p1 p2 : Int) (hp1 : 40 ≤ p1 ∧ p1 ≤ 43) (hp2 : 40 ≤ p2 ∧ p2 ≤ 43) (hr1 : (0 ≤ σ p1 1 ∧ σ p1 1 ≤ 20) ∧ (0 ≤ σ p1 2 ∧ σ p1 2 ≤ 10)) (hr2 : (0 ≤ σ p2 1 ∧ σ p2 1 ≤ 20) ∧ (0 ≤ σ p2 2 ∧ σ p2 2 ≤ 10)) (hpt : ∀ e : Int, 0 ≤ e → e < 25 → 0 ≤ σ 16 e ∧ σ 16 e ≤ 160) (hee : 0 ≤ ee ∧ ee < 25) (hh : 20 ≤ hard ∧ hard ≤ 240) : zMet l yX5_leastBeatFor cX5_leastBeatFor 8 (some .int) 2 (zPc D Y a σ [.ref (a 15), .int (iI ee), .int (iI hard), .ref (a p1), .ref (a p2)]) (zQi D Y a (fun r τ => kLb σ hard (mSec hard (σ 16 ee)) p1 p2 ee r ∧ τ = σ)) (inA a) := by
  refine z_start rfl (Nat.le_of_ble_eq_true rfl) hI ?_
  intro p e s m below meth c ls C hr hlocks hl hP
  have hS : va_S (inA a) s.heap s.heap [] := va_S.rf
  have hl : lv_has ls 8 [(0, .ref (a 15)), (1, .int (iI ee)), (2, .int (iI hard)), (3, .ref (a p1)), (4, .ref (a p2))] := hl
  skip
  have hp0 := hpt ee (by omega) (by omega)
  refine z_iload_n C hl 2 rfl dX5_leastBeatFor_0 ?_
  refine z_aload_n C hl 0 rfl dX5_leastBeatFor_1 ?_
  refine zg_X5_9 C hP dX5_leastBeatFor_2 ?_
  refine z_iload_n C hl 1 rfl dX5_leastBeatFor_5 ?_
  refine z_iald C hP ia_16 ⟨by omega, by omega⟩ dX5_leastBeatFor_6 ?_
  refine z_sSi C hP (As := [.int (iI hard), .int (iI (σ 16 ee))]) lk_X5_114 (c_X0_secondsOf hI σ hard (σ 16 ee) (by omega) (by omega)) rfl hl.1 rfl (Nat.le_of_ble_eq_true rfl) ⟨Nat.le_of_ble_eq_true rfl, Nat.le_of_ble_eq_true rfl⟩ ⟨Nat.zero_le _, Nat.zero_le _⟩ dX5_leastBeatFor_7 ?_
  have hs0 := mSec_b (h := hard) (t := σ 16 ee) (by omega)
  refine z_topi (fun x1 hx1 => ?_)
  refine z_istore C [1, 2, 3, 4, 5, 0] [(0, .ref (a 15)), (1, .int (iI ee)), (2, .int (iI hard)), (3, .ref (a p1)), (4, .ref (a p2)), (5, .int (iI x1))] hl (by decide) rfl dX5_leastBeatFor_10 (fun ls hl => ?_)
  refine z_iconst C dX5_leastBeatFor_12 ?_
  refine z_istore C [1, 2, 3, 4, 5, 6, 0] [(0, .ref (a 15)), (1, .int (iI ee)), (2, .int (iI hard)), (3, .ref (a p1)), (4, .ref (a p2)), (5, .int (iI x1)), (6, .int (iI 4))] hl (by decide) rfl dX5_leastBeatFor_13 (fun ls hl => ?_)
  have L_15 : ∀ (n : Nat) (b : Int) (τ : zS) (H : Heap) (locs : List Loc) (hP : GP D Y a τ H) (hS : va_S (inA a) s.heap H locs) (ls : Array Slot), (σ = τ) → (4 ≤ b ∧ b ≤ 10) → (∀ j : Int, 4 ≤ j → j < b → mSec hard (kTs σ p1 p2 ee j) ≠ mSec hard (σ 16 ee)) → ((10 - b).toNat) < n → lv_has ls 8 [(0, .ref (a 15)), (1, .int (iI ee)), (2, .int (iI hard)), (3, .ref (a p1)), (4, .ref (a p2)), (5, .int (iI x1)), (6, .int (iI b))] → W p l e (zR 2) s m ([.ref (a 15), .int (iI ee), .int (iI hard), .ref (a p1), .ref (a p2)] : List Value).toArray below meth c H locs 0 0 (MQ below (zQi D Y a (fun r τ => kLb σ hard (mSec hard (σ 16 ee)) p1 p2 ee r ∧ τ = σ)) ([.ref (a 15), .int (iI ee), .int (iI hard), .ref (a p1), .ref (a p2)] : List Value).toArray s 0 0 (inA a)) (F0 m 15 ls []) := by
    intro n
    induction n with
    | zero =>
      intros; omega
    | succ n ih_15 =>
      intro b τ H locs hP hS ls iT ib iN hm hl
      subst iT
      refine z_iload C hl 6 rfl dX5_leastBeatFor_15 ?_
      refine z_bipush C (by decide +kernel) dX5_leastBeatFor_17 ?_
      refine z_icmp_ge C 64 dX5_leastBeatFor_19 (by decide) ⟨by omega, by omega⟩ ⟨by omega, by omega⟩ (fun c_19 => ?_) (fun c_19 => ?_)
      · refine z_bipush C (by decide +kernel) dX5_leastBeatFor_64 ?_
        exact z_retQi C hP hS hr hlocks rfl (by have hb10 : b = 10 := (by omega); subst hb10; exact ⟨⟨by decide, Or.inl rfl, iN⟩, rfl⟩) dX5_leastBeatFor_66
      · refine z_aload_n C hl 3 rfl dX5_leastBeatFor_22 ?_
        refine z_iload_n C hl 1 rfl dX5_leastBeatFor_23 ?_
        refine z_iconst C dX5_leastBeatFor_24 ?_
        refine z_idiv C ⟨by omega, by omega, by omega, by omega⟩ dX5_leastBeatFor_25 ?_
        refine z_iload C hl 6 rfl dX5_leastBeatFor_26 ?_
        refine z_vSi C hP (As := [.int (iI (ee / 5)), .int (iI b)]) lk_X5_128 (c_X4_treads hI σ p1 (ee / 5) b (by unfold zRid; omega) hr1.1 hr1.2 ⟨by omega, by omega⟩ ⟨by omega, by omega⟩) (ob_rid (by unfold zRid; omega)) rfl rfl rfl hl.1 rfl (Nat.le_of_ble_eq_true rfl) ⟨Nat.le_of_ble_eq_true rfl, Nat.le_of_ble_eq_true rfl⟩ ⟨Nat.zero_le _, Nat.zero_le _⟩ dX5_leastBeatFor_28 ?_
        have t1 := mTread_b hr1.1 hr1.2 (e := ee / 5) (b := b) (by omega) (by omega)
        refine z_aload C hl 4 rfl dX5_leastBeatFor_31 ?_
        refine z_iload_n C hl 1 rfl dX5_leastBeatFor_33 ?_
        refine z_iconst C dX5_leastBeatFor_34 ?_
        refine z_irem C ⟨by omega, by omega, by omega, by omega⟩ dX5_leastBeatFor_35 ?_
        refine z_iload C hl 6 rfl dX5_leastBeatFor_36 ?_
        refine z_vSi C hP (As := [.int (iI (ee % 5)), .int (iI b)]) lk_X5_128 (c_X4_treads hI σ p2 (ee % 5) b (by unfold zRid; omega) hr2.1 hr2.2 ⟨by omega, by omega⟩ ⟨by omega, by omega⟩) (ob_rid (by unfold zRid; omega)) rfl rfl rfl hl.1 rfl (Nat.le_of_ble_eq_true rfl) ⟨Nat.le_of_ble_eq_true rfl, Nat.le_of_ble_eq_true rfl⟩ ⟨Nat.zero_le _, Nat.zero_le _⟩ dX5_leastBeatFor_38 ?_
        have t2 := mTread_b hr2.1 hr2.2 (e := ee % 5) (b := b) (by omega) (by omega)
        refine z_iadd C dX5_leastBeatFor_41 ?_
        refine z_topi (fun x2 hx2 => ?_)
        refine z_istore C [1, 2, 3, 4, 5, 6, 7, 0] [(0, .ref (a 15)), (1, .int (iI ee)), (2, .int (iI hard)), (3, .ref (a p1)), (4, .ref (a p2)), (5, .int (iI x1)), (6, .int (iI b)), (7, .int (iI x2))] hl (by decide) rfl dX5_leastBeatFor_42 (fun ls hl => ?_)
        refine z_iload_n C hl 2 rfl dX5_leastBeatFor_44 ?_
        refine z_iload C hl 7 rfl dX5_leastBeatFor_45 ?_
        refine z_sSi C hP (As := [.int (iI hard), .int (iI x2)]) lk_X5_114 (c_X0_secondsOf hI σ hard x2 (by omega) (by omega)) rfl hl.1 rfl (Nat.le_of_ble_eq_true rfl) ⟨Nat.le_of_ble_eq_true rfl, Nat.le_of_ble_eq_true rfl⟩ ⟨Nat.zero_le _, Nat.zero_le _⟩ dX5_leastBeatFor_47 ?_
        have hsb := mSec_b (h := hard) (t := x2) (by omega)
        have hks : mSec hard (kTs σ p1 p2 ee b) = mSec hard x2 := by rw [← hx2]; rfl
        refine z_iload C hl 5 rfl dX5_leastBeatFor_50 ?_
        refine z_icmp_ne C 58 dX5_leastBeatFor_52 (by decide) ⟨by omega, by omega⟩ ⟨by omega, by omega⟩ (fun c_52 => ?_) (fun c_52 => ?_)
        · refine z_iinc C 6 [1, 2, 3, 4, 5, 6, 0, 7] [(0, .ref (a 15)), (1, .int (iI ee)), (2, .int (iI hard)), (3, .ref (a p1)), (4, .ref (a p2)), (5, .int (iI x1)), (6, .int (iI (b + 1))), (7, .int (iI x2))] hl rfl (by decide) rfl dX5_leastBeatFor_58 (fun ls hl => ?_)
          refine z_goto C 15 dX5_leastBeatFor_61 (by decide) ?_
          exact ih_15 (b + 1) σ H locs hP hS ls (by rfl) (by omega) (by intro j h1 h2; exact if hj : j = b then (by rw [hj]; omega) else iN j h1 (by omega)) (by omega) (lv_sub hl [0, 1, 2, 3, 4, 5, 6] rfl)
        · refine z_iload C hl 6 rfl dX5_leastBeatFor_55 ?_
          exact z_retQi C hP hS hr hlocks rfl (by exact ⟨⟨ib, Or.inr (by omega), iN⟩, rfl⟩) dX5_leastBeatFor_57
  exact L_15 _ 4 σ _ _ hP hS ls (by rfl) (by omega) (by intro j h1 h2; omega) (Nat.lt_succ_self _) (lv_sub hl [0, 1, 2, 3, 4, 5, 6] rfl)

theorem iOr {n r : Int} (hn : 0 ≤ n ∧ n < 2097152) (hr : 0 ≤ r ∧ r ≤ 20) : ∃ q : Int, iI n ||| iI (2 ^ r.toNat) = iI q ∧ (0 ≤ q ∧ q < 2097152) ∧ ∀ h : Int, 0 ≤ h → mBit q h = if h = r then 1 else mBit n h := by
  have e : (2 : Int) ^ r.toNat = ((2 ^ r.toNat : Nat) : Int) := by simp
  have hb : n.toNat ||| 2 ^ r.toNat < 2 ^ 21 := Nat.or_lt_two_pow (by omega) (Nat.pow_lt_pow_right (by omega) (by omega))
  refine ⟨((n.toNat ||| 2 ^ r.toNat : Nat) : Int), ?_, ⟨by omega, by omega⟩, fun h h0 => ?_⟩
  · rw [e, iI_nat, iI_to n hn.1, fa_or, ← iI_nat]
  · have key : ∀ m : Nat, mBit (m : Int) h = if m.testBit h.toNat then 1 else 0 := fun m => by
      rw [Nat.testBit_eq_decide_div_mod_eq]
      unfold mBit
      have e2 : (m : Int) / 2 ^ h.toNat % 2 = ((m / 2 ^ h.toNat % 2 : Nat) : Int) := by simp
      rw [e2]
      by_cases hm : m / 2 ^ h.toNat % 2 = 1
      · rw [hm]; simp
      · have : m / 2 ^ h.toNat % 2 = 0 := by omega
        rw [this]; simp
    rw [key, Nat.testBit_or]
    have k2 := key n.toNat
    rw [Int.toNat_of_nonneg hn.1] at k2
    rw [k2]
    by_cases hh : h = r
    · rw [if_pos hh, hh, Nat.testBit_two_pow_self]
      simp
    · rw [if_neg hh, Nat.testBit_two_pow_of_ne (by omega)]
      simp
theorem mBit_z (h : Int) : mBit 0 h = 0 := by unfold mBit; simp
def kHb (σ τ : zS) (n : Int) : Prop := (∀ i : Int, 0 ≤ i → i ≤ n → 0 ≤ τ 20 i ∧ τ 20 i < 2097152) ∧ ∀ i : Int, 0 ≤ i → i < n → ∀ h : Int, 0 ≤ h → h ≤ σ 32 9 → (h = 0 ∨ mBit (τ 20 i) h = 1) → mHeat h (σ 35 i) ≤ σ 32 9 → mBit (τ 20 (i + 1)) (mHeat h (σ 35 i)) = 1
theorem mBit_one : mBit 1 0 = 1 := by decide
set_option maxRecDepth 20000 in
set_option maxHeartbeats 4000000 in
theorem c_X5_findHeats {l : Launch} {D : va_G} {Y : Nat → ClassId} {a : Int → Nat} (hI : zI a) (σ : zS)  (hn : 1 ≤ σ 32 12 ∧ σ 32 12 ≤ 24) (hg : ∀ i : Int, 0 ≤ i → i < 24 → -1 ≤ σ 35 i ∧ σ 35 i ≤ 6) (hho : 5 ≤ σ 32 9 ∧ σ 32 9 ≤ 20) (hq : σ 15 12 = σ 32 9) : zMet l yX5_findHeats cX5_findHeats 6 none 2 (zPc D Y a σ [.ref (a 15), .ref (a 32)]) (zQv D Y a (fun τ => (∀ c : Int, c ≠ 20 → τ c = σ c) ∧ kHb σ τ (σ 32 12) ∧ τ 20 0 = 1)) (inA a) := by
  refine z_start rfl (Nat.le_of_ble_eq_true rfl) hI ?_
  intro p e s m below meth c ls C hr hlocks hl hP
  have hS : va_S (inA a) s.heap s.heap [] := va_S.rf
  have hl : lv_has ls 6 [(0, .ref (a 15)), (1, .ref (a 32))] := hl
  skip
  refine z_aload_n C hl 0 rfl dX5_findHeats_0 ?_
  refine zg_X5_24 C hP dX5_findHeats_1 ?_
  refine z_iconst C dX5_findHeats_4 ?_
  refine z_iconst C dX5_findHeats_5 ?_
  refine z_iast C hP hS ia_20 ⟨by omega, by omega⟩ dX5_findHeats_6 (fun H locs hP hS => ?_)
  obtain ⟨t1, et1⟩ : ∃ z : zS, z = zU σ 20 0 1 := ⟨_, rfl⟩
  rw [← et1] at hP
  refine z_iconst C dX5_findHeats_7 ?_
  refine z_istore_n C [1, 2, 0] [(0, .ref (a 15)), (1, .ref (a 32)), (2, .int (iI 0))] hl (by decide) rfl dX5_findHeats_8 (fun ls hl => ?_)
  have L_9 : ∀ (n : Nat) (i : Int) (τ : zS) (H : Heap) (locs : List Loc) (hP : GP D Y a τ H) (hS : va_S (inA a) s.heap H locs) (ls : Array Slot), (0 ≤ i ∧ i ≤ σ 32 12) → (∀ c : Int, c ≠ 20 → τ c = σ c) → (kHb σ τ i) → (τ 20 0 = 1) → ((σ 32 12 - i).toNat) < n → lv_has ls 6 [(0, .ref (a 15)), (1, .ref (a 32)), (2, .int (iI i))] → W p l e (zR 2) s m ([.ref (a 15), .ref (a 32)] : List Value).toArray below meth c H locs 0 0 (MQ below (zQv D Y a (fun τ => (∀ c : Int, c ≠ 20 → τ c = σ c) ∧ kHb σ τ (σ 32 12) ∧ τ 20 0 = 1)) ([.ref (a 15), .ref (a 32)] : List Value).toArray s 0 0 (inA a)) (F0 m 9 ls []) := by
    intro n
    induction n with
    | zero =>
      intros; omega
    | succ n ih_9 =>
      intro i τ H locs hP hS ls ii fτ iK i0 hm hl
      refine z_iload_n C hl 2 rfl dX5_findHeats_9 ?_
      refine z_aload_n C hl 1 rfl dX5_findHeats_10 ?_
      refine zg32_X5_65 C hP dX5_findHeats_11 ?_
      rw [show τ 32 12 = σ 32 12 from by rw [fτ 32 (by omega)]]
      refine z_icmp_ge C 103 dX5_findHeats_14 (by decide) ⟨by omega, by omega⟩ ⟨by omega, by omega⟩ (fun c_14 => ?_) (fun c_14 => ?_)
      · exact z_retQv C hP hS hr hlocks (by exact ⟨fτ, (by rw [show σ 32 12 = i from (by omega)]; exact iK), i0⟩) dX5_findHeats_103
      · refine z_iconst C dX5_findHeats_17 ?_
        refine z_istore_n C [1, 2, 3, 0] [(0, .ref (a 15)), (1, .ref (a 32)), (2, .int (iI i)), (3, .int (iI 0))] hl (by decide) rfl dX5_findHeats_18 (fun ls hl => ?_)
        refine z_iconst C dX5_findHeats_19 ?_
        refine z_istore C [1, 2, 3, 4, 0] [(0, .ref (a 15)), (1, .ref (a 32)), (2, .int (iI i)), (3, .int (iI 0)), (4, .int (iI 0))] hl (by decide) rfl dX5_findHeats_20 (fun ls hl => ?_)
        have L_22 : ∀ (n : Nat) (bits : Int) (ht : Int) (τ : zS) (H : Heap) (locs : List Loc) (hP : GP D Y a τ H) (hS : va_S (inA a) s.heap H locs) (ls : Array Slot), (0 ≤ ht ∧ ht ≤ σ 32 9 + 1) → (∀ c : Int, c ≠ 20 → τ c = σ c) → (kHb σ τ i) → (τ 20 0 = 1) → (0 ≤ bits ∧ bits < 2097152) → ((∀ h : Int, 0 ≤ h → h < ht → (h = 0 ∨ mBit (τ 20 i) h = 1) → mHeat h (σ 35 i) ≤ σ 32 9 → mBit bits (mHeat h (σ 35 i)) = 1)) → ((σ 32 9 + 1 - ht).toNat) < n → lv_has ls 6 [(0, .ref (a 15)), (1, .ref (a 32)), (2, .int (iI i)), (3, .int (iI bits)), (4, .int (iI ht))] → W p l e (zR 2) s m ([.ref (a 15), .ref (a 32)] : List Value).toArray below meth c H locs 0 0 (MQ below (zQv D Y a (fun τ => (∀ c : Int, c ≠ 20 → τ c = σ c) ∧ kHb σ τ (σ 32 12) ∧ τ 20 0 = 1)) ([.ref (a 15), .ref (a 32)] : List Value).toArray s 0 0 (inA a)) (F0 m 22 ls []) := by
          intro n
          induction n with
          | zero =>
            intros; omega
          | succ n ih_22 =>
            intro bits ht τ H locs hP hS ls ih fτ iK i0 ib iB hm hl
            have hki := iK.1 i (by omega) (by omega)
            have hsh : 0 ≤ τ 20 i / 2 ^ ht.toNat ∧ τ 20 i / 2 ^ ht.toNat ≤ τ 20 i := ⟨Int.ediv_nonneg (by omega) (Int.le_of_lt (Int.pow_pos (by omega))), Int.ediv_le_self _ (by omega)⟩
            have hgi := hg i (by omega) (by omega)
            refine z_iload C hl 4 rfl dX5_findHeats_22 ?_
            refine z_aload_n C hl 0 rfl dX5_findHeats_24 ?_
            refine zg_X5_45 C hP dX5_findHeats_25 ?_
            rw [show τ 15 12 = σ 15 12 from by rw [fτ 15 (by omega)]]
            refine z_icmp_gt C 88 dX5_findHeats_28 (by decide) ⟨by omega, by omega⟩ ⟨by omega, by omega⟩ (fun c_28 => ?_) (fun c_28 => ?_)
            · refine z_aload_n C hl 0 rfl dX5_findHeats_88 ?_
              refine zg_X5_24 C hP dX5_findHeats_89 ?_
              refine z_iload_n C hl 2 rfl dX5_findHeats_92 ?_
              refine z_iconst C dX5_findHeats_93 ?_
              refine z_iadd C dX5_findHeats_94 ?_
              refine z_iload_n C hl 3 rfl dX5_findHeats_95 ?_
              refine z_iast C hP hS ia_20 ⟨by omega, by omega⟩ dX5_findHeats_96 (fun H locs hP hS => ?_)
              obtain ⟨t2, et2⟩ : ∃ z : zS, z = zU τ 20 (i + 1) bits := ⟨_, rfl⟩
              rw [← et2] at hP
              refine z_iinc C 2 [1, 2, 0, 3, 4] [(0, .ref (a 15)), (1, .ref (a 32)), (2, .int (iI (i + 1))), (3, .int (iI bits)), (4, .int (iI ht))] hl rfl (by decide) rfl dX5_findHeats_97 (fun ls hl => ?_)
              refine z_goto C 9 dX5_findHeats_100 (by decide) ?_
              exact ih_9 (i + 1) t2 H locs hP hS ls (by omega) (by intro c hc; rw [et2, zU_cell hc]; exact fτ c hc) (by exact ⟨fun j h1 h2 => (if hj : j = i + 1 then (by rw [hj, et2, zU_same]; exact ib) else (by rw [et2, zU_place hj]; exact iK.1 j h1 (by omega))), fun j h1 h2 h a1 a2 a3 a4 => (if hj : j = i then (by subst hj; rw [et2, zU_place (by omega)] at a3; rw [et2, zU_same]; exact iB h a1 (by omega) a3 a4) else (by rw [et2, zU_place (by omega)] at a3; rw [et2, zU_place (by omega)]; exact iK.2 j h1 (by omega) h a1 a2 a3 a4))⟩) (by rw [et2, zU_place (by omega)]; exact i0) (by omega) (lv_sub hl [0, 1, 2] rfl)
            · refine z_iload C hl 4 rfl dX5_findHeats_31 ?_
              refine z_if_eq C 53 dX5_findHeats_33 (by decide) ⟨by omega, by omega⟩ (fun c_33 => ?_) (fun c_33 => ?_)
              · refine z_iload C hl 4 rfl dX5_findHeats_53 ?_
                refine z_aload_n C hl 1 rfl dX5_findHeats_55 ?_
                refine zg32_X5_68 C hP dX5_findHeats_56 ?_
                refine z_iload_n C hl 2 rfl dX5_findHeats_59 ?_
                refine z_iald C hP ia_35 ⟨by omega, by omega⟩ dX5_findHeats_60 ?_
                rw [show τ 35 i = σ 35 i from by rw [fτ 35 (by omega)]]
                refine z_sSi C hP (As := [.int (iI ht), .int (iI (σ 35 i))]) lk_X5_94 (c_X0_heatBehind hI τ ht (σ 35 i) ⟨by omega, by omega⟩ ⟨by omega, by omega⟩) rfl hl.1 rfl (Nat.le_of_ble_eq_true rfl) ⟨Nat.le_of_ble_eq_true rfl, Nat.le_of_ble_eq_true rfl⟩ ⟨Nat.zero_le _, Nat.zero_le _⟩ dX5_findHeats_61 ?_
                have hmh := mHeat_b (h := ht) (s := σ 35 i) (by omega)
                refine z_topi (fun x3 hx3 => ?_)
                refine z_istore C [1, 2, 3, 4, 5, 0] [(0, .ref (a 15)), (1, .ref (a 32)), (2, .int (iI i)), (3, .int (iI bits)), (4, .int (iI ht)), (5, .int (iI x3))] hl (by decide) rfl dX5_findHeats_64 (fun ls hl => ?_)
                refine z_iload C hl 5 rfl dX5_findHeats_66 ?_
                refine z_aload_n C hl 0 rfl dX5_findHeats_68 ?_
                refine zg_X5_45 C hP dX5_findHeats_69 ?_
                rw [show τ 15 12 = σ 15 12 from by rw [fτ 15 (by omega)]]
                refine z_icmp_gt C 82 dX5_findHeats_72 (by decide) ⟨by omega, by omega⟩ ⟨by omega, by omega⟩ (fun c_72 => ?_) (fun c_72 => ?_)
                · refine z_iinc C 4 [1, 2, 3, 4, 0, 5] [(0, .ref (a 15)), (1, .ref (a 32)), (2, .int (iI i)), (3, .int (iI bits)), (4, .int (iI (ht + 1))), (5, .int (iI x3))] hl rfl (by decide) rfl dX5_findHeats_82 (fun ls hl => ?_)
                  refine z_goto C 22 dX5_findHeats_85 (by decide) ?_
                  exact ih_22 bits (ht + 1) τ H locs hP hS ls (by omega) (by exact fτ) (by exact iK) (by exact i0) (by first | exact ib | exact hqb.2.1) (by intro h h1 h2 h3 h4; first | exact iB h h1 (by omega) h3 h4 | exact (if hh : h = ht then (by subst hh; first | (exfalso; omega) | (rw [hqb.2.2 _ (by omega), if_pos (by omega)])) else (by first | exact iB h h1 (by omega) h3 h4 | (rw [hqb.2.2 _ (mHeat_b (by omega)).1]; split; rfl; exact iB h h1 (by omega) h3 h4)))) (by omega) (lv_sub hl [0, 1, 2, 3, 4] rfl)
                · refine z_iload_n C hl 3 rfl dX5_findHeats_75 ?_
                  refine z_iconst C dX5_findHeats_76 ?_
                  refine z_iload C hl 5 rfl dX5_findHeats_77 ?_
                  refine z_ishl C (2 ^ x3.toNat) (z_shl1 ⟨by omega, by omega⟩) dX5_findHeats_79 ?_
                  obtain ⟨qb, hqb⟩ := iOr (n := bits) (r := x3) ib (by omega)
                  refine z_ior C qb hqb.1 dX5_findHeats_80 ?_
                  refine z_istore_n C [1, 2, 3, 0, 4, 5] [(0, .ref (a 15)), (1, .ref (a 32)), (2, .int (iI i)), (3, .int (iI qb)), (4, .int (iI ht)), (5, .int (iI x3))] hl (by decide) rfl dX5_findHeats_81 (fun ls hl => ?_)
                  refine z_iinc C 4 [1, 2, 3, 4, 0, 5] [(0, .ref (a 15)), (1, .ref (a 32)), (2, .int (iI i)), (3, .int (iI qb)), (4, .int (iI (ht + 1))), (5, .int (iI x3))] hl rfl (by decide) rfl dX5_findHeats_82 (fun ls hl => ?_)
                  refine z_goto C 22 dX5_findHeats_85 (by decide) ?_
                  exact ih_22 qb (ht + 1) τ H locs hP hS ls (by omega) (by exact fτ) (by exact iK) (by exact i0) (by first | exact ib | exact hqb.2.1) (by intro h h1 h2 h3 h4; first | exact iB h h1 (by omega) h3 h4 | exact (if hh : h = ht then (by subst hh; first | (exfalso; omega) | (rw [hqb.2.2 _ (by omega), if_pos (by omega)])) else (by first | exact iB h h1 (by omega) h3 h4 | (rw [hqb.2.2 _ (mHeat_b (by omega)).1]; split; rfl; exact iB h h1 (by omega) h3 h4)))) (by omega) (lv_sub hl [0, 1, 2, 3, 4] rfl)
              · refine z_aload_n C hl 0 rfl dX5_findHeats_36 ?_
                refine zg_X5_24 C hP dX5_findHeats_37 ?_
                refine z_iload_n C hl 2 rfl dX5_findHeats_40 ?_
                refine z_iald C hP ia_20 ⟨by omega, by omega⟩ dX5_findHeats_41 ?_
                refine z_iload C hl 4 rfl dX5_findHeats_42 ?_
                refine z_ishr C (τ 20 i / 2 ^ ht.toNat) (z_shrb ⟨by omega, by omega⟩ ⟨by omega, by omega⟩) dX5_findHeats_44 ?_
                refine z_iconst C dX5_findHeats_45 ?_
                refine z_iand C (mBit (τ 20 i) ht) (z_and1 ⟨by omega, by omega⟩) dX5_findHeats_46 ?_
                have hmb := mBit_b (τ 20 i) ht
                refine z_if_ne C 53 dX5_findHeats_47 (by decide) ⟨by omega, by omega⟩ (fun c_47 => ?_) (fun c_47 => ?_)
                · refine z_iload C hl 4 rfl dX5_findHeats_53 ?_
                  refine z_aload_n C hl 1 rfl dX5_findHeats_55 ?_
                  refine zg32_X5_68 C hP dX5_findHeats_56 ?_
                  refine z_iload_n C hl 2 rfl dX5_findHeats_59 ?_
                  refine z_iald C hP ia_35 ⟨by omega, by omega⟩ dX5_findHeats_60 ?_
                  rw [show τ 35 i = σ 35 i from by rw [fτ 35 (by omega)]]
                  refine z_sSi C hP (As := [.int (iI ht), .int (iI (σ 35 i))]) lk_X5_94 (c_X0_heatBehind hI τ ht (σ 35 i) ⟨by omega, by omega⟩ ⟨by omega, by omega⟩) rfl hl.1 rfl (Nat.le_of_ble_eq_true rfl) ⟨Nat.le_of_ble_eq_true rfl, Nat.le_of_ble_eq_true rfl⟩ ⟨Nat.zero_le _, Nat.zero_le _⟩ dX5_findHeats_61 ?_
                  have hmh := mHeat_b (h := ht) (s := σ 35 i) (by omega)
                  refine z_topi (fun x4 hx4 => ?_)
                  refine z_istore C [1, 2, 3, 4, 5, 0] [(0, .ref (a 15)), (1, .ref (a 32)), (2, .int (iI i)), (3, .int (iI bits)), (4, .int (iI ht)), (5, .int (iI x4))] hl (by decide) rfl dX5_findHeats_64 (fun ls hl => ?_)
                  refine z_iload C hl 5 rfl dX5_findHeats_66 ?_
                  refine z_aload_n C hl 0 rfl dX5_findHeats_68 ?_
                  refine zg_X5_45 C hP dX5_findHeats_69 ?_
                  rw [show τ 15 12 = σ 15 12 from by rw [fτ 15 (by omega)]]
                  refine z_icmp_gt C 82 dX5_findHeats_72 (by decide) ⟨by omega, by omega⟩ ⟨by omega, by omega⟩ (fun c_72 => ?_) (fun c_72 => ?_)
                  · refine z_iinc C 4 [1, 2, 3, 4, 0, 5] [(0, .ref (a 15)), (1, .ref (a 32)), (2, .int (iI i)), (3, .int (iI bits)), (4, .int (iI (ht + 1))), (5, .int (iI x4))] hl rfl (by decide) rfl dX5_findHeats_82 (fun ls hl => ?_)
                    refine z_goto C 22 dX5_findHeats_85 (by decide) ?_
                    exact ih_22 bits (ht + 1) τ H locs hP hS ls (by omega) (by exact fτ) (by exact iK) (by exact i0) (by first | exact ib | exact hqb.2.1) (by intro h h1 h2 h3 h4; first | exact iB h h1 (by omega) h3 h4 | exact (if hh : h = ht then (by subst hh; first | (exfalso; omega) | (rw [hqb.2.2 _ (by omega), if_pos (by omega)])) else (by first | exact iB h h1 (by omega) h3 h4 | (rw [hqb.2.2 _ (mHeat_b (by omega)).1]; split; rfl; exact iB h h1 (by omega) h3 h4)))) (by omega) (lv_sub hl [0, 1, 2, 3, 4] rfl)
                  · refine z_iload_n C hl 3 rfl dX5_findHeats_75 ?_
                    refine z_iconst C dX5_findHeats_76 ?_
                    refine z_iload C hl 5 rfl dX5_findHeats_77 ?_
                    refine z_ishl C (2 ^ x4.toNat) (z_shl1 ⟨by omega, by omega⟩) dX5_findHeats_79 ?_
                    obtain ⟨qb, hqb⟩ := iOr (n := bits) (r := x4) ib (by omega)
                    refine z_ior C qb hqb.1 dX5_findHeats_80 ?_
                    refine z_istore_n C [1, 2, 3, 0, 4, 5] [(0, .ref (a 15)), (1, .ref (a 32)), (2, .int (iI i)), (3, .int (iI qb)), (4, .int (iI ht)), (5, .int (iI x4))] hl (by decide) rfl dX5_findHeats_81 (fun ls hl => ?_)
                    refine z_iinc C 4 [1, 2, 3, 4, 0, 5] [(0, .ref (a 15)), (1, .ref (a 32)), (2, .int (iI i)), (3, .int (iI qb)), (4, .int (iI (ht + 1))), (5, .int (iI x4))] hl rfl (by decide) rfl dX5_findHeats_82 (fun ls hl => ?_)
                    refine z_goto C 22 dX5_findHeats_85 (by decide) ?_
                    exact ih_22 qb (ht + 1) τ H locs hP hS ls (by omega) (by exact fτ) (by exact iK) (by exact i0) (by first | exact ib | exact hqb.2.1) (by intro h h1 h2 h3 h4; first | exact iB h h1 (by omega) h3 h4 | exact (if hh : h = ht then (by subst hh; first | (exfalso; omega) | (rw [hqb.2.2 _ (by omega), if_pos (by omega)])) else (by first | exact iB h h1 (by omega) h3 h4 | (rw [hqb.2.2 _ (mHeat_b (by omega)).1]; split; rfl; exact iB h h1 (by omega) h3 h4)))) (by omega) (lv_sub hl [0, 1, 2, 3, 4] rfl)
                · refine z_goto C 82 dX5_findHeats_50 (by decide) ?_
                  refine z_iinc C 4 [1, 2, 3, 4, 0] [(0, .ref (a 15)), (1, .ref (a 32)), (2, .int (iI i)), (3, .int (iI bits)), (4, .int (iI (ht + 1)))] hl rfl (by decide) rfl dX5_findHeats_82 (fun ls hl => ?_)
                  refine z_goto C 22 dX5_findHeats_85 (by decide) ?_
                  exact ih_22 bits (ht + 1) τ H locs hP hS ls (by omega) (by exact fτ) (by exact iK) (by exact i0) (by first | exact ib | exact hqb.2.1) (by intro h h1 h2 h3 h4; first | exact iB h h1 (by omega) h3 h4 | exact (if hh : h = ht then (by subst hh; first | (exfalso; omega) | (rw [hqb.2.2 _ (by omega), if_pos (by omega)])) else (by first | exact iB h h1 (by omega) h3 h4 | (rw [hqb.2.2 _ (mHeat_b (by omega)).1]; split; rfl; exact iB h h1 (by omega) h3 h4)))) (by omega) (lv_sub hl [0, 1, 2, 3, 4] rfl)
        exact L_22 _ 0 0 τ _ _ hP hS ls (by omega) (by exact fτ) (by exact iK) (by exact i0) (by omega) (by intro h h1 h2; omega) (Nat.lt_succ_self _) (lv_sub hl [0, 1, 2, 3, 4] rfl)
  exact L_9 _ 0 t1 _ _ hP hS ls (by omega) (by intro c hc; rw [et1, zU_cell hc]) (by exact ⟨fun j h1 h2 => (by rw [show j = 0 from (by omega), et1, zU_same]; decide), fun j h1 h2 => (by omega)⟩) (by rw [et1, zU_same]) (Nat.lt_succ_self _) (lv_sub hl [0, 1, 2] rfl)
