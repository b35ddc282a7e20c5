set_option maxRecDepth 20000 in
set_option maxHeartbeats 4000000 in
theorem c_X8_goBack {l : Launch} {D : va_G} {Y : Nat → ClassId} {a : Int → Nat} (hI : zI a) (σ : zS) (f rr : Int) (hf : 0 ≤ f ∧ f ≤ 3) (hrr : 0 ≤ rr ∧ rr ≤ 3) (hnm : 1 ≤ σ 100 11 ∧ σ 100 11 ≤ 24) (hrd : ∀ r : Int, 0 ≤ r → r ≤ 3 → (0 ≤ σ 101 r ∧ σ 101 r ≤ 20) ∧ (0 ≤ σ 102 r ∧ σ 102 r ≤ 10) ∧ (0 ≤ σ 103 r ∧ σ 103 r ≤ 9)) (hho : 5 ≤ σ 100 7 ∧ σ 100 7 ≤ 20) (hpz : 0 ≤ σ 100 8 ∧ σ 100 8 ≤ 99) (hch : ∀ i : Int, 0 ≤ i → i < 24 → 0 ≤ σ 105 i ∧ σ 105 i ≤ 200) (h115 : jBd σ 115) : zMet l yX8_goBack cX8_goBack 9 none 4 (zPc D Y a σ [.ref (a 100), .int (iI f), .int (iI rr)]) (zQv D Y a (fun τ => jG σ τ ∧ jQ σ τ f rr (σ 105 0) ∧ jN σ τ f rr (σ 100 11 - 1).toNat ∧ jBd τ 115 ∧ jBd τ 116)) (inA a) := by
  refine z_start rfl (Nat.le_of_ble_eq_true rfl) hI ?_
  intro p e s m below meth c ls C hr hlocks hl hP
  have hS : va_S (inA a) s.heap s.heap [] := va_S.rf
  have hl : lv_has ls 9 [(0, .ref (a 100)), (1, .int (iI f)), (2, .int (iI rr))] := hl
  have w1 := (hrd f hf.1 hf.2).2.2
  have w2 := (hrd rr hrr.1 hrr.2).2.2
  skip
  refine z_iconst C dX8_goBack_0 ?_
  refine z_istore_n C [1, 2, 3, 0] [(0, .ref (a 100)), (1, .int (iI f)), (2, .int (iI rr)), (3, .int (iI 0))] hl (by decide) rfl dX8_goBack_1 (fun ls hl => ?_)
  have L_2 : ∀ (n : Nat) (s0 : Int) (τ : zS) (H : Heap) (locs : List Loc) (hP : GP D Y a τ H) (hS : va_S (inA a) s.heap H locs) (ls : Array Slot), (0 ≤ s0 ∧ s0 ≤ 2100) → (jG σ τ) → (∀ i : Int, 0 ≤ i → i < s0 → τ 116 i = 0) → (jBd τ 115) → ((2100 - s0).toNat) < n → lv_has ls 9 [(0, .ref (a 100)), (1, .int (iI f)), (2, .int (iI rr)), (3, .int (iI s0))] → W p l e (zR 4) s m ([.ref (a 100), .int (iI f), .int (iI rr)] : List Value).toArray below meth c H locs 0 0 (MQ below (zQv D Y a (fun τ => jG σ τ ∧ jQ σ τ f rr (σ 105 0) ∧ jN σ τ f rr (σ 100 11 - 1).toNat ∧ jBd τ 115 ∧ jBd τ 116)) ([.ref (a 100), .int (iI f), .int (iI rr)] : List Value).toArray s 0 0 (inA a)) (F0 m 2 ls []) := by
    intro n
    induction n with
    | zero =>
      intros; omega
    | succ n ih_2 =>
      intro s0 τ H locs hP hS ls ia fτ iz bτ hm hl
      refine z_iload_n C hl 3 rfl dX8_goBack_2 ?_
      refine z_sipush C (by decide +kernel) dX8_goBack_3 ?_
      refine z_icmp_ge C 22 dX8_goBack_6 (by decide) ⟨by omega, by omega⟩ ⟨by omega, by omega⟩ (fun c_6 => ?_) (fun c_6 => ?_)
      · refine z_aload_n C hl 0 rfl dX8_goBack_22 ?_
        refine zg_X8_81 C hP dX8_goBack_23 ?_
        rw [show τ 100 11 = σ 100 11 from by rw [fτ 100 (by omega)]]
        refine z_iconst C dX8_goBack_26 ?_
        refine z_isub C dX8_goBack_27 ?_
        refine z_topi (fun x1 hx1 => ?_)
        refine z_istore_n C [1, 2, 3, 0] [(0, .ref (a 100)), (1, .int (iI f)), (2, .int (iI rr)), (3, .int (iI x1))] hl (by decide) rfl dX8_goBack_28 (fun ls hl => ?_)
        have L_29 : ∀ (n : Nat) (k : Int) (τ : zS) (H : Heap) (locs : List Loc) (hP : GP D Y a τ H) (hS : va_S (inA a) s.heap H locs) (ls : Array Slot), (0 ≤ k ∧ k ≤ σ 100 11 - 1) → (jG σ τ) → (jN σ τ f rr (σ 100 11 - 1 - k).toNat) → (jBd τ 115) → (jBd τ 116) → (k.toNat) < n → lv_has ls 9 [(0, .ref (a 100)), (1, .int (iI f)), (2, .int (iI rr)), (3, .int (iI k))] → W p l e (zR 4) s m ([.ref (a 100), .int (iI f), .int (iI rr)] : List Value).toArray below meth c H locs 0 0 (MQ below (zQv D Y a (fun τ => jG σ τ ∧ jQ σ τ f rr (σ 105 0) ∧ jN σ τ f rr (σ 100 11 - 1).toNat ∧ jBd τ 115 ∧ jBd τ 116)) ([.ref (a 100), .int (iI f), .int (iI rr)] : List Value).toArray s 0 0 (inA a)) (F0 m 29 ls []) := by
          intro n
          induction n with
          | zero =>
            intros; omega
          | succ n ih_29 =>
            intro k τ H locs hP hS ls ik fτ nτ bτ cτ hm hl
            refine z_iload_n C hl 3 rfl dX8_goBack_29 ?_
            refine z_if_le C 220 dX8_goBack_30 (by decide) ⟨by omega, by omega⟩ (fun c_30 => ?_) (fun c_30 => ?_)
            · refine z_aload_n C hl 0 rfl dX8_goBack_220 ?_
              refine z_iload_n C hl 1 rfl dX8_goBack_221 ?_
              refine z_iload_n C hl 2 rfl dX8_goBack_222 ?_
              refine z_aload_n C hl 0 rfl dX8_goBack_223 ?_
              refine zg_X8_22 C hP dX8_goBack_224 ?_
              refine z_iconst C dX8_goBack_227 ?_
              refine z_iald C hP ia_105 ⟨by omega, by omega⟩ dX8_goBack_228 ?_
              rw [show τ 105 0 = σ 105 0 from by rw [fτ 105 (by omega)]]
              refine z_vQv hS C hP (As := [.int (iI f), .int (iI rr), .int (iI (σ 105 0))]) lk_X8_240 (c_X8_findQuickest hI τ f rr (σ 105 0) hf hrr (hch _ (by omega) (by omega)) (by rw [fτ 101 (by omega), fτ 102 (by omega), fτ 103 (by omega)]; exact hrd)) ob_100 rfl rfl rfl hl.1 rfl (Nat.le_of_ble_eq_true rfl) ⟨Nat.le_of_ble_eq_true rfl, Nat.le_of_ble_eq_true rfl⟩ ⟨Nat.zero_le _, Nat.zero_le _⟩ dX8_goBack_229 (fun t3 H locs hp229 hP hS => ?_)
              have ft3 : jG σ t3 := fun c hc => by rw [hp229.1 c (by omega), fτ c hc]
              have qt3 : jQ σ t3 f rr (σ 105 0) := fun e h1 h2 => by rw [hp229.2 e h1 h2, jQk_c (fτ 101 (by omega)) (fτ 102 (by omega))]
              exact z_retQv C hP hS hr hlocks (by exact ⟨ft3, qt3, fun x y h hd => (by rw [hp229.1 116 (by omega), nτ x y h hd, show (σ 100 11 - 1 - k).toNat = (σ 100 11 - 1).toNat from (by omega)]), fun i h1 h2 => (by rw [hp229.1 115 (by omega)]; exact bτ i h1 h2), fun i h1 h2 => (by rw [hp229.1 116 (by omega)]; exact cτ i h1 h2)⟩) dX8_goBack_232
            · refine z_aload_n C hl 0 rfl dX8_goBack_33 ?_
              refine z_iload_n C hl 1 rfl dX8_goBack_34 ?_
              refine z_iload_n C hl 2 rfl dX8_goBack_35 ?_
              refine z_aload_n C hl 0 rfl dX8_goBack_36 ?_
              refine zg_X8_22 C hP dX8_goBack_37 ?_
              refine z_iload_n C hl 3 rfl dX8_goBack_40 ?_
              refine z_iald C hP ia_105 ⟨by omega, by omega⟩ dX8_goBack_41 ?_
              rw [show τ 105 k = σ 105 k from by rw [fτ 105 (by omega)]]
              refine z_vQv hS C hP (As := [.int (iI f), .int (iI rr), .int (iI (σ 105 k))]) lk_X8_240 (c_X8_findQuickest hI τ f rr (σ 105 k) hf hrr (hch _ (by omega) (by omega)) (by rw [fτ 101 (by omega), fτ 102 (by omega), fτ 103 (by omega)]; exact hrd)) ob_100 rfl rfl rfl hl.1 rfl (Nat.le_of_ble_eq_true rfl) ⟨Nat.le_of_ble_eq_true rfl, Nat.le_of_ble_eq_true rfl⟩ ⟨Nat.zero_le _, Nat.zero_le _⟩ dX8_goBack_42 (fun t5 H locs hp42 hP hS => ?_)
              have ft5 : jG σ t5 := fun c hc => by rw [hp42.1 c (by omega), fτ c hc]
              have qt5 : jQ σ t5 f rr (σ 105 k) := fun e h1 h2 => by rw [hp42.2 e h1 h2, jQk_c (fτ 101 (by omega)) (fτ 102 (by omega))]
              have nt5 : jN σ t5 f rr (σ 100 11 - 1 - k).toNat := fun x y h hd => by rw [hp42.1 116 (by omega)]; exact nτ x y h hd
              have bt5 : jBd t5 115 := fun i h1 h2 => by rw [hp42.1 115 (by omega)]; exact bτ i h1 h2
              have ct5 : jBd t5 116 := fun i h1 h2 => by rw [hp42.1 116 (by omega)]; exact cτ i h1 h2
              refine z_aload_n C hl 0 rfl dX8_goBack_45 ?_
              refine z_iload_n C hl 1 rfl dX8_goBack_46 ?_
              refine z_iload_n C hl 2 rfl dX8_goBack_47 ?_
              refine z_aload_n C hl 0 rfl dX8_goBack_48 ?_
              refine zg_X8_16 C hP dX8_goBack_49 ?_
              refine z_iload_n C hl 1 rfl dX8_goBack_52 ?_
              refine z_iald C hP ia_103 ⟨by omega, by omega⟩ dX8_goBack_53 ?_
              rw [show t5 103 f = σ 103 f from by rw [ft5 103 (by omega)]]
              refine z_aload_n C hl 0 rfl dX8_goBack_54 ?_
              refine zg_X8_16 C hP dX8_goBack_55 ?_
              refine z_iload_n C hl 2 rfl dX8_goBack_58 ?_
              refine z_iald C hP ia_103 ⟨by omega, by omega⟩ dX8_goBack_59 ?_
              rw [show t5 103 rr = σ 103 rr from by rw [ft5 103 (by omega)]]
              refine z_iconst C dX8_goBack_60 ?_
              refine z_aload_n C hl 0 rfl dX8_goBack_61 ?_
              refine zg_X8_22 C hP dX8_goBack_62 ?_
              refine z_iload_n C hl 3 rfl dX8_goBack_65 ?_
              refine z_iald C hP ia_105 ⟨by omega, by omega⟩ dX8_goBack_66 ?_
              rw [show t5 105 k = σ 105 k from by rw [ft5 105 (by omega)]]
              refine z_vSi C hP (As := [.int (iI f), .int (iI rr), .int (iI (σ 103 f)), .int (iI (σ 103 rr)), .int (iI 0), .int (iI (σ 105 k))]) lk_X8_244 (c_X8_bestFrom hI t5 f rr (σ 103 f) (σ 103 rr) 0 (σ 105 k) hf hrr (by rw [ft5 101 (by omega), ft5 102 (by omega), ft5 103 (by omega)]; exact hrd) (by rw [ft5 100 (by omega)]; exact hho) ⟨by omega, by omega⟩ ⟨by omega, by omega⟩ ⟨by decide, by decide⟩ (hch _ (by omega) (by omega)) (fun e h1 h2 => by rw [qt5 e h1 h2]; have := jQk_b σ f rr (σ 105 k) e; omega) ct5) ob_100 rfl rfl rfl hl.1 rfl (Nat.le_of_ble_eq_true rfl) ⟨Nat.le_of_ble_eq_true rfl, Nat.le_of_ble_eq_true rfl⟩ ⟨Nat.zero_le _, Nat.zero_le _⟩ dX8_goBack_67 ?_
              rw [jBF (k := k) (m := (σ 100 11 - 1 - k).toNat) hrd hho hf hrr ft5 qt5 nt5 (x := σ 103 f) (y := σ 103 rr) (h := 0) ⟨⟨by omega, by omega⟩, ⟨by omega, by omega⟩, by omega, by omega⟩]
              have hb0 := jBk_b hpz f rr k (σ 100 11 - 1 - k).toNat (σ 103 f) (σ 103 rr) 0
              refine z_aload_n C hl 0 rfl dX8_goBack_70 ?_
              refine zg_X8_75 C hP dX8_goBack_71 ?_
              rw [show t5 100 8 = σ 100 8 from by rw [ft5 100 (by omega)]]
              refine z_iadd C dX8_goBack_74 ?_
              refine z_topi (fun x6 hx6 => ?_)
              refine z_istore C [1, 2, 3, 4, 0] [(0, .ref (a 100)), (1, .int (iI f)), (2, .int (iI rr)), (3, .int (iI k)), (4, .int (iI x6))] hl (by decide) rfl dX8_goBack_75 (fun ls hl => ?_)
              refine z_iconst C dX8_goBack_77 ?_
              refine z_istore C [1, 2, 3, 4, 5, 0] [(0, .ref (a 100)), (1, .int (iI f)), (2, .int (iI rr)), (3, .int (iI k)), (4, .int (iI x6)), (5, .int (iI 0))] hl (by decide) rfl dX8_goBack_78 (fun ls hl => ?_)
              have L_80 : ∀ (n : Nat) (xa : Int) (τ : zS) (H : Heap) (locs : List Loc) (hP : GP D Y a τ H) (hS : va_S (inA a) s.heap H locs) (ls : Array Slot), (0 ≤ xa ∧ xa ≤ σ 103 f + 1) → (jG σ τ) → (jQ σ τ f rr (σ 105 k)) → (jN σ τ f rr (σ 100 11 - 1 - k).toNat) → (jBd τ 115) → (jBd τ 116) → (∀ x y h : Int, jDom σ f rr x y h → x < xa → τ 115 (jIx x y h) = jV σ f rr (σ 100 11 - k).toNat x y h) → ((σ 103 f + 1 - xa).toNat) < n → lv_has ls 9 [(0, .ref (a 100)), (1, .int (iI f)), (2, .int (iI rr)), (3, .int (iI k)), (4, .int (iI x6)), (5, .int (iI xa))] → W p l e (zR 4) s m ([.ref (a 100), .int (iI f), .int (iI rr)] : List Value).toArray below meth c H locs 0 0 (MQ below (zQv D Y a (fun τ => jG σ τ ∧ jQ σ τ f rr (σ 105 0) ∧ jN σ τ f rr (σ 100 11 - 1).toNat ∧ jBd τ 115 ∧ jBd τ 116)) ([.ref (a 100), .int (iI f), .int (iI rr)] : List Value).toArray s 0 0 (inA a)) (F0 m 80 ls []) := by
                intro n
                induction n with
                | zero =>
                  intros; omega
                | succ n ih_80 =>
                  intro xa τ H locs hP hS ls ja fτ qτ nτ bτ cτ iT hm hl
                  refine z_iload C hl 5 rfl dX8_goBack_80 ?_
                  refine z_aload_n C hl 0 rfl dX8_goBack_82 ?_
                  refine zg_X8_16 C hP dX8_goBack_83 ?_
                  refine z_iload_n C hl 1 rfl dX8_goBack_86 ?_
                  refine z_iald C hP ia_103 ⟨by omega, by omega⟩ dX8_goBack_87 ?_
                  rw [show τ 103 f = σ 103 f from by rw [fτ 103 (by omega)]]
                  refine z_icmp_gt C 183 dX8_goBack_88 (by decide) ⟨by omega, by omega⟩ ⟨by omega, by omega⟩ (fun c_88 => ?_) (fun c_88 => ?_)
                  · refine z_iconst C dX8_goBack_183 ?_
                    refine z_istore C [1, 2, 3, 4, 5, 0] [(0, .ref (a 100)), (1, .int (iI f)), (2, .int (iI rr)), (3, .int (iI k)), (4, .int (iI x6)), (5, .int (iI 0))] hl (by decide) rfl dX8_goBack_184 (fun ls hl => ?_)
                    have L_186 : ∀ (n : Nat) (s1 : Int) (τ : zS) (H : Heap) (locs : List Loc) (hP : GP D Y a τ H) (hS : va_S (inA a) s.heap H locs) (ls : Array Slot), (0 ≤ s1 ∧ s1 ≤ 2100) → (jG σ τ) → (jBd τ 115) → (jBd τ 116) → (∀ x y h : Int, jDom σ f rr x y h → τ 115 (jIx x y h) = jV σ f rr (σ 100 11 - k).toNat x y h) → (∀ i : Int, 0 ≤ i → i < s1 → τ 116 i = τ 115 i) → ((2100 - s1).toNat) < n → lv_has ls 9 [(0, .ref (a 100)), (1, .int (iI f)), (2, .int (iI rr)), (3, .int (iI k)), (4, .int (iI x6)), (5, .int (iI s1))] → W p l e (zR 4) s m ([.ref (a 100), .int (iI f), .int (iI rr)] : List Value).toArray below meth c H locs 0 0 (MQ below (zQv D Y a (fun τ => jG σ τ ∧ jQ σ τ f rr (σ 105 0) ∧ jN σ τ f rr (σ 100 11 - 1).toNat ∧ jBd τ 115 ∧ jBd τ 116)) ([.ref (a 100), .int (iI f), .int (iI rr)] : List Value).toArray s 0 0 (inA a)) (F0 m 186 ls []) := by
                      intro n
                      induction n with
                      | zero =>
                        intros; omega
                      | succ n ih_186 =>
                        intro s1 τ H locs hP hS ls js fτ bτ cτ iT iC hm hl
                        refine z_iload C hl 5 rfl dX8_goBack_186 ?_
                        refine z_sipush C (by decide +kernel) dX8_goBack_188 ?_
                        refine z_icmp_ge C 214 dX8_goBack_191 (by decide) ⟨by omega, by omega⟩ ⟨by omega, by omega⟩ (fun c_191 => ?_) (fun c_191 => ?_)
                        · refine z_iinc C 3 [1, 2, 3, 0, 4, 5] [(0, .ref (a 100)), (1, .int (iI f)), (2, .int (iI rr)), (3, .int (iI (k + (-1)))), (4, .int (iI x6)), (5, .int (iI s1))] hl rfl (by decide) rfl dX8_goBack_214 (fun ls hl => ?_)
                          refine z_goto C 29 dX8_goBack_217 (by decide) ?_
                          exact ih_29 (k + (-1)) τ H locs hP hS ls (by omega) (by exact fτ) (by intro x y h hd; have hd2 := hd; unfold jDom at hd2; rw [iC _ (by unfold jIx; omega) (by unfold jIx; omega), iT x y h hd, show (σ 100 11 - 1 - (k + (-1))).toNat = (σ 100 11 - k).toNat from (by omega)]) (by exact bτ) (by exact cτ) (by omega) (lv_sub hl [0, 1, 2, 3] rfl)
                        · refine z_aload_n C hl 0 rfl dX8_goBack_194 ?_
                          refine zg_X8_55 C hP dX8_goBack_195 ?_
                          refine z_iload C hl 5 rfl dX8_goBack_198 ?_
                          refine z_aload_n C hl 0 rfl dX8_goBack_200 ?_
                          refine zg_X8_52 C hP dX8_goBack_201 ?_
                          refine z_iload C hl 5 rfl dX8_goBack_204 ?_
                          refine z_iald C hP ia_115 ⟨by omega, by omega⟩ dX8_goBack_206 ?_
                          refine z_iast C hP hS ia_116 ⟨by omega, by omega⟩ dX8_goBack_207 (fun H locs hP hS => ?_)
                          obtain ⟨t7, et7⟩ : ∃ z : zS, z = zU τ 116 s1 (τ 115 s1) := ⟨_, rfl⟩
                          rw [← et7] at hP
                          refine z_iinc C 5 [1, 2, 3, 4, 5, 0] [(0, .ref (a 100)), (1, .int (iI f)), (2, .int (iI rr)), (3, .int (iI k)), (4, .int (iI x6)), (5, .int (iI (s1 + 1)))] hl rfl (by decide) rfl dX8_goBack_208 (fun ls hl => ?_)
                          refine z_goto C 186 dX8_goBack_211 (by decide) ?_
                          exact ih_186 (s1 + 1) t7 H locs hP hS ls (by omega) (by intro c hc; exact (by rw [et7, zU_cell (by omega), fτ c (by omega)])) (by intro i h1 h2; rw [et7, zU_cell (by decide)]; exact bτ i h1 h2) (by intro i h1 h2; exact if hi : i = s1 then (by rw [hi, et7, zU_same]; exact bτ s1 (by omega) (by omega)) else (by rw [et7, zU_place hi]; exact cτ i h1 h2)) (by intro x y h hd; rw [et7, zU_cell (by decide)]; exact iT x y h hd) (by intro i h1 h2; exact if hi : i = s1 then (by rw [hi, et7, zU_same, zU_cell (by decide)]) else (by rw [et7, zU_place hi, zU_cell (by decide)]; exact iC i h1 (by omega))) (by omega) (lv_sub hl [0, 1, 2, 3, 4, 5] rfl)
                    exact L_186 _ 0 τ _ _ hP hS ls (by omega) (by exact fτ) (by exact bτ) (by exact cτ) (by intro x y h hd; exact iT x y h hd (by unfold jDom at hd; omega)) (by intro i h1 h2; omega) (Nat.lt_succ_self _) (lv_sub hl [0, 1, 2, 3, 4, 5] rfl)
                  · refine z_iconst C dX8_goBack_91 ?_
                    refine z_istore C [1, 2, 3, 4, 5, 6, 0] [(0, .ref (a 100)), (1, .int (iI f)), (2, .int (iI rr)), (3, .int (iI k)), (4, .int (iI x6)), (5, .int (iI xa)), (6, .int (iI 0))] hl (by decide) rfl dX8_goBack_92 (fun ls hl => ?_)
                    have L_94 : ∀ (n : Nat) (ya : Int) (τ : zS) (H : Heap) (locs : List Loc) (hP : GP D Y a τ H) (hS : va_S (inA a) s.heap H locs) (ls : Array Slot), (0 ≤ ya ∧ ya ≤ σ 103 rr + 1) → (jG σ τ) → (jQ σ τ f rr (σ 105 k)) → (jN σ τ f rr (σ 100 11 - 1 - k).toNat) → (jBd τ 115) → (jBd τ 116) → (∀ x y h : Int, jDom σ f rr x y h → (x < xa ∨ (x = xa ∧ y < ya)) → τ 115 (jIx x y h) = jV σ f rr (σ 100 11 - k).toNat x y h) → ((σ 103 rr + 1 - ya).toNat) < n → lv_has ls 9 [(0, .ref (a 100)), (1, .int (iI f)), (2, .int (iI rr)), (3, .int (iI k)), (4, .int (iI x6)), (5, .int (iI xa)), (6, .int (iI ya))] → W p l e (zR 4) s m ([.ref (a 100), .int (iI f), .int (iI rr)] : List Value).toArray below meth c H locs 0 0 (MQ below (zQv D Y a (fun τ => jG σ τ ∧ jQ σ τ f rr (σ 105 0) ∧ jN σ τ f rr (σ 100 11 - 1).toNat ∧ jBd τ 115 ∧ jBd τ 116)) ([.ref (a 100), .int (iI f), .int (iI rr)] : List Value).toArray s 0 0 (inA a)) (F0 m 94 ls []) := by
                      intro n
                      induction n with
                      | zero =>
                        intros; omega
                      | succ n ih_94 =>
                        intro ya τ H locs hP hS ls jb fτ qτ nτ bτ cτ iT hm hl
                        refine z_iload C hl 6 rfl dX8_goBack_94 ?_
                        refine z_aload_n C hl 0 rfl dX8_goBack_96 ?_
                        refine zg_X8_16 C hP dX8_goBack_97 ?_
                        refine z_iload_n C hl 2 rfl dX8_goBack_100 ?_
                        refine z_iald C hP ia_103 ⟨by omega, by omega⟩ dX8_goBack_101 ?_
                        rw [show τ 103 rr = σ 103 rr from by rw [fτ 103 (by omega)]]
                        refine z_icmp_gt C 177 dX8_goBack_102 (by decide) ⟨by omega, by omega⟩ ⟨by omega, by omega⟩ (fun c_102 => ?_) (fun c_102 => ?_)
                        · refine z_iinc C 5 [1, 2, 3, 4, 5, 0, 6] [(0, .ref (a 100)), (1, .int (iI f)), (2, .int (iI rr)), (3, .int (iI k)), (4, .int (iI x6)), (5, .int (iI (xa + 1))), (6, .int (iI ya))] hl rfl (by decide) rfl dX8_goBack_177 (fun ls hl => ?_)
                          refine z_goto C 80 dX8_goBack_180 (by decide) ?_
                          exact ih_80 (xa + 1) τ H locs hP hS ls (by omega) (by exact fτ) (by exact qτ) (by exact nτ) (by exact bτ) (by exact cτ) (by intro x y h hd hl; exact iT x y h hd (by unfold jDom at hd; omega)) (by omega) (lv_sub hl [0, 1, 2, 3, 4, 5] rfl)
                        · refine z_iconst C dX8_goBack_105 ?_
                          refine z_istore C [1, 2, 3, 4, 5, 6, 7, 0] [(0, .ref (a 100)), (1, .int (iI f)), (2, .int (iI rr)), (3, .int (iI k)), (4, .int (iI x6)), (5, .int (iI xa)), (6, .int (iI ya)), (7, .int (iI 0))] hl (by decide) rfl dX8_goBack_106 (fun ls hl => ?_)
                          have L_108 : ∀ (n : Nat) (ha : Int) (τ : zS) (H : Heap) (locs : List Loc) (hP : GP D Y a τ H) (hS : va_S (inA a) s.heap H locs) (ls : Array Slot), (0 ≤ ha ∧ ha ≤ σ 100 7 + 1) → (jG σ τ) → (jQ σ τ f rr (σ 105 k)) → (jN σ τ f rr (σ 100 11 - 1 - k).toNat) → (jBd τ 115) → (jBd τ 116) → (∀ x y h : Int, jDom σ f rr x y h → (x < xa ∨ (x = xa ∧ (y < ya ∨ (y = ya ∧ h < ha)))) → τ 115 (jIx x y h) = jV σ f rr (σ 100 11 - k).toNat x y h) → ((σ 100 7 + 1 - ha).toNat) < n → lv_has ls 9 [(0, .ref (a 100)), (1, .int (iI f)), (2, .int (iI rr)), (3, .int (iI k)), (4, .int (iI x6)), (5, .int (iI xa)), (6, .int (iI ya)), (7, .int (iI ha))] → W p l e (zR 4) s m ([.ref (a 100), .int (iI f), .int (iI rr)] : List Value).toArray below meth c H locs 0 0 (MQ below (zQv D Y a (fun τ => jG σ τ ∧ jQ σ τ f rr (σ 105 0) ∧ jN σ τ f rr (σ 100 11 - 1).toNat ∧ jBd τ 115 ∧ jBd τ 116)) ([.ref (a 100), .int (iI f), .int (iI rr)] : List Value).toArray s 0 0 (inA a)) (F0 m 108 ls []) := by
                            intro n
                            induction n with
                            | zero =>
                              intros; omega
                            | succ n ih_108 =>
                              intro ha τ H locs hP hS ls jc fτ qτ nτ bτ cτ iT hm hl
                              refine z_iload C hl 7 rfl dX8_goBack_108 ?_
                              refine z_aload_n C hl 0 rfl dX8_goBack_110 ?_
                              refine zg_X8_72 C hP dX8_goBack_111 ?_
                              rw [show τ 100 7 = σ 100 7 from by rw [fτ 100 (by omega)]]
                              refine z_icmp_gt C 171 dX8_goBack_114 (by decide) ⟨by omega, by omega⟩ ⟨by omega, by omega⟩ (fun c_114 => ?_) (fun c_114 => ?_)
                              · refine z_iinc C 6 [1, 2, 3, 4, 5, 6, 0, 7] [(0, .ref (a 100)), (1, .int (iI f)), (2, .int (iI rr)), (3, .int (iI k)), (4, .int (iI x6)), (5, .int (iI xa)), (6, .int (iI (ya + 1))), (7, .int (iI ha))] hl rfl (by decide) rfl dX8_goBack_171 (fun ls hl => ?_)
                                refine z_goto C 94 dX8_goBack_174 (by decide) ?_
                                exact ih_94 (ya + 1) τ H locs hP hS ls (by omega) (by exact fτ) (by exact qτ) (by exact nτ) (by exact bτ) (by exact cτ) (by intro x y h hd hl; exact iT x y h hd (by unfold jDom at hd; omega)) (by omega) (lv_sub hl [0, 1, 2, 3, 4, 5, 6] rfl)
                              · refine z_aload_n C hl 0 rfl dX8_goBack_117 ?_
                                refine z_iload_n C hl 1 rfl dX8_goBack_118 ?_
                                refine z_iload_n C hl 2 rfl dX8_goBack_119 ?_
                                refine z_iload C hl 5 rfl dX8_goBack_120 ?_
                                refine z_iload C hl 6 rfl dX8_goBack_122 ?_
                                refine z_iload C hl 7 rfl dX8_goBack_124 ?_
                                refine z_aload_n C hl 0 rfl dX8_goBack_126 ?_
                                refine zg_X8_22 C hP dX8_goBack_127 ?_
                                refine z_iload_n C hl 3 rfl dX8_goBack_130 ?_
                                refine z_iald C hP ia_105 ⟨by omega, by omega⟩ dX8_goBack_131 ?_
                                rw [show τ 105 k = σ 105 k from by rw [fτ 105 (by omega)]]
                                refine z_vSi C hP (As := [.int (iI f), .int (iI rr), .int (iI xa), .int (iI ya), .int (iI ha), .int (iI (σ 105 k))]) lk_X8_244 (c_X8_bestFrom hI τ f rr xa ya ha (σ 105 k) hf hrr (by rw [fτ 101 (by omega), fτ 102 (by omega), fτ 103 (by omega)]; exact hrd) (by rw [fτ 100 (by omega)]; exact hho) ⟨by omega, by omega⟩ ⟨by omega, by omega⟩ ⟨by omega, by omega⟩ (hch _ (by omega) (by omega)) (fun e h1 h2 => by rw [qτ e h1 h2]; have := jQk_b σ f rr (σ 105 k) e; omega) cτ) ob_100 rfl rfl rfl hl.1 rfl (Nat.le_of_ble_eq_true rfl) ⟨Nat.le_of_ble_eq_true rfl, Nat.le_of_ble_eq_true rfl⟩ ⟨Nat.zero_le _, Nat.zero_le _⟩ dX8_goBack_132 ?_
                                rw [jBF (k := k) (m := (σ 100 11 - 1 - k).toNat) hrd hho hf hrr fτ qτ nτ (x := xa) (y := ya) (h := ha) ⟨⟨by omega, by omega⟩, ⟨by omega, by omega⟩, by omega, by omega⟩]
                                have hb1 := jBk_b hpz f rr k (σ 100 11 - 1 - k).toNat xa ya ha
                                refine z_topi (fun x8 hx8 => ?_)
                                refine z_istore C [1, 2, 3, 4, 5, 6, 7, 8, 0] [(0, .ref (a 100)), (1, .int (iI f)), (2, .int (iI rr)), (3, .int (iI k)), (4, .int (iI x6)), (5, .int (iI xa)), (6, .int (iI ya)), (7, .int (iI ha)), (8, .int (iI x8))] hl (by decide) rfl dX8_goBack_135 (fun ls hl => ?_)
                                refine z_aload_n C hl 0 rfl dX8_goBack_137 ?_
                                refine zg_X8_52 C hP dX8_goBack_138 ?_
                                refine z_iload C hl 5 rfl dX8_goBack_141 ?_
                                refine z_iload C hl 6 rfl dX8_goBack_143 ?_
                                refine z_iload C hl 7 rfl dX8_goBack_145 ?_
                                refine z_sSi C hP (As := [.int (iI xa), .int (iI ya), .int (iI ha)]) lk_X8_233 (c_X8_stateOf hI τ xa ya ha ) rfl hl.1 rfl (Nat.le_of_ble_eq_true rfl) ⟨Nat.le_of_ble_eq_true rfl, Nat.le_of_ble_eq_true rfl⟩ ⟨Nat.zero_le _, Nat.zero_le _⟩ dX8_goBack_147 ?_
                                refine z_iload C hl 8 rfl dX8_goBack_150 ?_
                                refine z_iload C hl 4 rfl dX8_goBack_152 ?_
                                refine z_icmp_ge C 162 dX8_goBack_154 (by decide) ⟨by omega, by omega⟩ ⟨by omega, by omega⟩ (fun c_154 => ?_) (fun c_154 => ?_)
                                · refine z_iload C hl 4 rfl dX8_goBack_162 ?_
                                  refine z_iast C hP hS ia_115 ⟨by omega, by omega⟩ dX8_goBack_164 (fun H locs hP hS => ?_)
                                  obtain ⟨t9, et9⟩ : ∃ z : zS, z = zU τ 115 ((xa * 10 + ya) * 21 + ha) x6 := ⟨_, rfl⟩
                                  rw [← et9] at hP
                                  refine z_iinc C 7 [1, 2, 3, 4, 5, 6, 7, 0, 8] [(0, .ref (a 100)), (1, .int (iI f)), (2, .int (iI rr)), (3, .int (iI k)), (4, .int (iI x6)), (5, .int (iI xa)), (6, .int (iI ya)), (7, .int (iI (ha + 1))), (8, .int (iI x8))] hl rfl (by decide) rfl dX8_goBack_165 (fun ls hl => ?_)
                                  refine z_goto C 108 dX8_goBack_168 (by decide) ?_
                                  exact ih_108 (ha + 1) t9 H locs hP hS ls (by omega) (by intro c hc; exact (by rw [et9, zU_cell (by omega), fτ c (by omega)])) (by intro e h1 h2; rw [et9, zU_cell (by decide)]; exact qτ e h1 h2) (by intro x y h hd; rw [et9, zU_cell (by decide)]; exact nτ x y h hd) (by intro i h1 h2; exact if hi : i = (xa * 10 + ya) * 21 + ha then (by rw [hi, et9, zU_same]; omega) else (by rw [et9, zU_place hi]; exact bτ i h1 h2)) (by intro i h1 h2; rw [et9, zU_cell (by decide)]; exact cτ i h1 h2) (by intro x y h hd hl; exact if hi : x = xa ∧ y = ya ∧ h = ha then (by obtain ⟨rfl, rfl, rfl⟩ := hi; rw [et9, show jIx x y h = (x * 10 + y) * 21 + h from rfl, zU_same, jV_s σ f rr (k := k) (by omega)]; omega) else (by rw [et9, zU_place (by unfold jDom at hd; unfold jIx; omega)]; exact iT x y h hd (by omega))) (by omega) (lv_sub hl [0, 1, 2, 3, 4, 5, 6, 7] rfl)
                                · refine z_iload C hl 8 rfl dX8_goBack_157 ?_
                                  refine z_goto C 164 dX8_goBack_159 (by decide) ?_
                                  refine z_iast C hP hS ia_115 ⟨by omega, by omega⟩ dX8_goBack_164 (fun H locs hP hS => ?_)
                                  obtain ⟨t10, et10⟩ : ∃ z : zS, z = zU τ 115 ((xa * 10 + ya) * 21 + ha) x8 := ⟨_, rfl⟩
                                  rw [← et10] at hP
                                  refine z_iinc C 7 [1, 2, 3, 4, 5, 6, 7, 0, 8] [(0, .ref (a 100)), (1, .int (iI f)), (2, .int (iI rr)), (3, .int (iI k)), (4, .int (iI x6)), (5, .int (iI xa)), (6, .int (iI ya)), (7, .int (iI (ha + 1))), (8, .int (iI x8))] hl rfl (by decide) rfl dX8_goBack_165 (fun ls hl => ?_)
                                  refine z_goto C 108 dX8_goBack_168 (by decide) ?_
                                  exact ih_108 (ha + 1) t10 H locs hP hS ls (by omega) (by intro c hc; exact (by rw [et10, zU_cell (by omega), fτ c (by omega)])) (by intro e h1 h2; rw [et10, zU_cell (by decide)]; exact qτ e h1 h2) (by intro x y h hd; rw [et10, zU_cell (by decide)]; exact nτ x y h hd) (by intro i h1 h2; exact if hi : i = (xa * 10 + ya) * 21 + ha then (by rw [hi, et10, zU_same]; omega) else (by rw [et10, zU_place hi]; exact bτ i h1 h2)) (by intro i h1 h2; rw [et10, zU_cell (by decide)]; exact cτ i h1 h2) (by intro x y h hd hl; exact if hi : x = xa ∧ y = ya ∧ h = ha then (by obtain ⟨rfl, rfl, rfl⟩ := hi; rw [et10, show jIx x y h = (x * 10 + y) * 21 + h from rfl, zU_same, jV_s σ f rr (k := k) (by omega)]; omega) else (by rw [et10, zU_place (by unfold jDom at hd; unfold jIx; omega)]; exact iT x y h hd (by omega))) (by omega) (lv_sub hl [0, 1, 2, 3, 4, 5, 6, 7] rfl)
                          exact L_108 _ 0 τ _ _ hP hS ls (by omega) (by exact fτ) (by exact qτ) (by exact nτ) (by exact bτ) (by exact cτ) (by intro x y h hd hl; exact iT x y h hd (by unfold jDom at hd; omega)) (Nat.lt_succ_self _) (lv_sub hl [0, 1, 2, 3, 4, 5, 6, 7] rfl)
                    exact L_94 _ 0 τ _ _ hP hS ls (by omega) (by exact fτ) (by exact qτ) (by exact nτ) (by exact bτ) (by exact cτ) (by intro x y h hd hl; exact iT x y h hd (by unfold jDom at hd; omega)) (Nat.lt_succ_self _) (lv_sub hl [0, 1, 2, 3, 4, 5, 6] rfl)
              exact L_80 _ 0 t5 _ _ hP hS ls (by omega) (by exact ft5) (by exact qt5) (by exact nt5) (by exact bt5) (by exact ct5) (by intro x y h hd hl; unfold jDom at hd; omega) (Nat.lt_succ_self _) (lv_sub hl [0, 1, 2, 3, 4, 5] rfl)
        exact L_29 _ x1 τ _ _ hP hS ls (by omega) (by exact fτ) (by intro x y h hd; unfold jDom at hd; rw [iz _ (by unfold jIx; omega) (by unfold jIx; omega), show (σ 100 11 - 1 - x1).toNat = 0 from (by omega)]; rfl) (by exact bτ) (by intro i h1 h2; rw [iz i h1 (by omega)]; decide) (Nat.lt_succ_self _) (lv_sub hl [0, 1, 2, 3] rfl)
      · refine z_aload_n C hl 0 rfl dX8_goBack_9 ?_
        refine zg_X8_55 C hP dX8_goBack_10 ?_
        refine z_iload_n C hl 3 rfl dX8_goBack_13 ?_
        refine z_iconst C dX8_goBack_14 ?_
        refine z_iast C hP hS ia_116 ⟨by omega, by omega⟩ dX8_goBack_15 (fun H locs hP hS => ?_)
        obtain ⟨t11, et11⟩ : ∃ z : zS, z = zU τ 116 s0 0 := ⟨_, rfl⟩
        rw [← et11] at hP
        refine z_iinc C 3 [1, 2, 3, 0] [(0, .ref (a 100)), (1, .int (iI f)), (2, .int (iI rr)), (3, .int (iI (s0 + 1)))] hl rfl (by decide) rfl dX8_goBack_16 (fun ls hl => ?_)
        refine z_goto C 2 dX8_goBack_19 (by decide) ?_
        exact ih_2 (s0 + 1) t11 H locs hP hS ls (by omega) (by intro c hc; exact (by rw [et11, zU_cell (by omega), fτ c (by omega)])) (by intro i h1 h2; exact if hi : i = s0 then (by rw [hi, et11, zU_same]) else (by rw [et11, zU_place hi]; exact iz i h1 (by omega))) (by intro i h1 h2; rw [et11, zU_cell (by decide)]; exact bτ i h1 h2) (by omega) (lv_sub hl [0, 1, 2, 3] rfl)
  exact L_2 _ 0 σ _ _ hP hS ls (by omega) (by intro c hc; rfl) (by intro i h1 h2; omega) (by exact h115) (Nat.lt_succ_self _) (lv_sub hl [0, 1, 2, 3] rfl)

def jB0 (σ : zS) (f r : Int) : Int := jBk σ f r 0 (σ 100 11 - 1).toNat (σ 103 f) (σ 103 r) 0
def jS0 (σ : zS) (f r : Int) : Int := if jB0 σ f r < 1000000 then jB0 σ f r else -6
set_option maxRecDepth 20000 in
set_option maxHeartbeats 4000000 in
theorem c_X8_soonestOf {l : Launch} {D : va_G} {Y : Nat → ClassId} {a : Int → Nat} (hI : zI a) (σ : zS) (f rr : Int) (hf : 0 ≤ f ∧ f ≤ 3) (hrr : 0 ≤ rr ∧ rr ≤ 3) (hnm : 1 ≤ σ 100 11 ∧ σ 100 11 ≤ 24) (hrd : ∀ r : Int, 0 ≤ r → r ≤ 3 → (0 ≤ σ 101 r ∧ σ 101 r ≤ 20) ∧ (0 ≤ σ 102 r ∧ σ 102 r ≤ 10) ∧ (0 ≤ σ 103 r ∧ σ 103 r ≤ 9)) (hho : 5 ≤ σ 100 7 ∧ σ 100 7 ≤ 20) (hpz : 0 ≤ σ 100 8 ∧ σ 100 8 ≤ 99) (hch : ∀ i : Int, 0 ≤ i → i < 24 → 0 ≤ σ 105 i ∧ σ 105 i ≤ 200) (h115 : jBd σ 115) : zMet l yX8_soonestOf cX8_soonestOf 4 (some .int) 5 (zPc D Y a σ [.ref (a 100), .int (iI f), .int (iI rr)]) (zQi D Y a (fun r τ => r = jS0 σ f rr ∧ jG σ τ ∧ jQ σ τ f rr (σ 105 0) ∧ jN σ τ f rr (σ 100 11 - 1).toNat ∧ jBd τ 115 ∧ jBd τ 116)) (inA a) := by
  refine z_start rfl (Nat.le_of_ble_eq_true rfl) hI ?_
  intro p e s m below meth c ls C hr hlocks hl hP
  have hS : va_S (inA a) s.heap s.heap [] := va_S.rf
  have hl : lv_has ls 4 [(0, .ref (a 100)), (1, .int (iI f)), (2, .int (iI rr))] := hl
  have w1 := (hrd f hf.1 hf.2).2.2
  have w2 := (hrd rr hrr.1 hrr.2).2.2
  skip
  refine z_aload_n C hl 0 rfl dX8_soonestOf_0 ?_
  refine z_iload_n C hl 1 rfl dX8_soonestOf_1 ?_
  refine z_iload_n C hl 2 rfl dX8_soonestOf_2 ?_
  refine z_vQv hS C hP (As := [.int (iI f), .int (iI rr)]) lk_X8_248 (c_X8_goBack hI σ f rr hf hrr hnm hrd hho hpz hch h115) ob_100 rfl rfl rfl hl.1 rfl (Nat.le_of_ble_eq_true rfl) ⟨Nat.le_of_ble_eq_true rfl, Nat.le_of_ble_eq_true rfl⟩ ⟨Nat.zero_le _, Nat.zero_le _⟩ dX8_soonestOf_3 (fun t2 H locs hp3 hP hS => ?_)
  have ft2 : jG σ t2 := hp3.1
  have qt2 := hp3.2.1
  have nt2 := hp3.2.2.1
  have bt2 := hp3.2.2.2.1
  have ct2 := hp3.2.2.2.2
  refine z_aload_n C hl 0 rfl dX8_soonestOf_6 ?_
  refine z_iload_n C hl 1 rfl dX8_soonestOf_7 ?_
  refine z_iload_n C hl 2 rfl dX8_soonestOf_8 ?_
  refine z_aload_n C hl 0 rfl dX8_soonestOf_9 ?_
  refine zg_X8_16 C hP dX8_soonestOf_10 ?_
  refine z_iload_n C hl 1 rfl dX8_soonestOf_13 ?_
  refine z_iald C hP ia_103 ⟨by omega, by omega⟩ dX8_soonestOf_14 ?_
  rw [show t2 103 f = σ 103 f from by rw [ft2 103 (by omega)]]
  refine z_aload_n C hl 0 rfl dX8_soonestOf_15 ?_
  refine zg_X8_16 C hP dX8_soonestOf_16 ?_
  refine z_iload_n C hl 2 rfl dX8_soonestOf_19 ?_
  refine z_iald C hP ia_103 ⟨by omega, by omega⟩ dX8_soonestOf_20 ?_
  rw [show t2 103 rr = σ 103 rr from by rw [ft2 103 (by omega)]]
  refine z_iconst C dX8_soonestOf_21 ?_
  refine z_aload_n C hl 0 rfl dX8_soonestOf_22 ?_
  refine zg_X8_22 C hP dX8_soonestOf_23 ?_
  refine z_iconst C dX8_soonestOf_26 ?_
  refine z_iald C hP ia_105 ⟨by omega, by omega⟩ dX8_soonestOf_27 ?_
  rw [show t2 105 0 = σ 105 0 from by rw [ft2 105 (by omega)]]
  refine z_vSi C hP (As := [.int (iI f), .int (iI rr), .int (iI (σ 103 f)), .int (iI (σ 103 rr)), .int (iI 0), .int (iI (σ 105 0))]) lk_X8_244 (c_X8_bestFrom hI t2 f rr (σ 103 f) (σ 103 rr) 0 (σ 105 0) hf hrr (by rw [ft2 101 (by omega), ft2 102 (by omega), ft2 103 (by omega)]; exact hrd) (by rw [ft2 100 (by omega)]; exact hho) ⟨by omega, by omega⟩ ⟨by omega, by omega⟩ ⟨by decide, by decide⟩ (hch _ (by omega) (by omega)) (fun e h1 h2 => by rw [qt2 e h1 h2]; have := jQk_b σ f rr (σ 105 0) e; omega) ct2) ob_100 rfl rfl rfl hl.1 rfl (Nat.le_of_ble_eq_true rfl) ⟨Nat.le_of_ble_eq_true rfl, Nat.le_of_ble_eq_true rfl⟩ ⟨Nat.zero_le _, Nat.zero_le _⟩ dX8_soonestOf_28 ?_
  rw [jBF (k := 0) (m := (σ 100 11 - 1).toNat) hrd hho hf hrr ft2 qt2 nt2 (x := σ 103 f) (y := σ 103 rr) (h := 0) ⟨⟨by omega, by omega⟩, ⟨by omega, by omega⟩, by omega, by omega⟩]
  have hb0 := jBk_b hpz f rr 0 (σ 100 11 - 1).toNat (σ 103 f) (σ 103 rr) 0
  rw [show jBk σ f rr 0 (σ 100 11 - 1).toNat (σ 103 f) (σ 103 rr) 0 = jB0 σ f rr from rfl]
  rw [show jBk σ f rr 0 (σ 100 11 - 1).toNat (σ 103 f) (σ 103 rr) 0 = jB0 σ f rr from rfl] at hb0
  refine z_topi (fun x3 hx3 => ?_)
  refine z_istore_n C [1, 2, 3, 0] [(0, .ref (a 100)), (1, .int (iI f)), (2, .int (iI rr)), (3, .int (iI x3))] hl (by decide) rfl dX8_soonestOf_31 (fun ls hl => ?_)
  refine z_iload_n C hl 3 rfl dX8_soonestOf_32 ?_
  refine z_ldc C (z := 1000000) wd_556 (by decide +kernel) dX8_soonestOf_33 ?_
  refine z_icmp_ge C 42 dX8_soonestOf_35 (by decide) ⟨by omega, by omega⟩ ⟨by omega, by omega⟩ (fun c_35 => ?_) (fun c_35 => ?_)
  · refine z_bipush C (by decide +kernel) dX8_soonestOf_42 ?_
    exact z_retQi C hP hS hr hlocks rfl (by exact ⟨(by unfold jS0; first | (rw [if_pos (by omega)]; omega) | (rw [if_neg (by omega)])), hp3⟩) dX8_soonestOf_44
  · refine z_iload_n C hl 3 rfl dX8_soonestOf_38 ?_
    refine z_goto C 44 dX8_soonestOf_39 (by decide) ?_
    exact z_retQi C hP hS hr hlocks rfl (by exact ⟨(by unfold jS0; first | (rw [if_pos (by omega)]; omega) | (rw [if_neg (by omega)])), hp3⟩) dX8_soonestOf_44

theorem mFstI {P : Int → Prop} {n : Int} (h : ∃ i : Int, 0 ≤ i ∧ i < n ∧ P i) : ∃ i : Int, 0 ≤ i ∧ i < n ∧ P i ∧ ∀ j : Int, 0 ≤ j → j < i → ¬ P j := by
  have key : ∀ (m : Nat) (s : Int), 0 ≤ s → s + m = n → (∀ j : Int, 0 ≤ j → j < s → ¬ P j) → ∃ i : Int, 0 ≤ i ∧ i < n ∧ P i ∧ ∀ j : Int, 0 ≤ j → j < i → ¬ P j := by
    intro m
    induction m with
    | zero =>
      intro s h1 h2 h3
      obtain ⟨i, a1, a2, a3⟩ := h
      exact absurd a3 (h3 i a1 (by omega))
    | succ m ih =>
      intro s h1 h2 h3
      rcases Classical.em (P s) with hs | hs
      · exact ⟨s, h1, by omega, hs, h3⟩
      · exact ih (s + 1) (by omega) (by omega) (fun j g1 g2 => if hj : j = s then by rw [hj]; exact hs else h3 j g1 (by omega))
  obtain ⟨i, a1, a2, a3⟩ := h
  exact key n.toNat 0 (by omega) (by omega) (fun j g1 g2 => by omega)
def jW1 (σ : zS) (e : Int) : Int := dpF (σ 103 (σ 100 5)) (σ 103 (σ 100 6)) (σ 100 7) (fun e => jQk σ (σ 100 5) (σ 100 6) (σ 105 0) e) (mSort (σ 105 0)) (jV σ (σ 100 5) (σ 100 6) (σ 100 11 - 1).toNat) (σ 103 (σ 100 5)) (σ 103 (σ 100 6)) 0 e
def jFe (σ : zS) (e b : Int) : Prop := (0 ≤ e ∧ e < 25 ∧ jW1 σ e = jB0 σ (σ 100 5) (σ 100 6) ∧ ∀ j : Int, 0 ≤ j → j < e → jW1 σ j ≠ jB0 σ (σ 100 5) (σ 100 6)) ∧ (0 ≤ b ∧ b < 7 ∧ jQf σ (σ 100 5) (σ 100 6) (σ 105 0) e b = jQk σ (σ 100 5) (σ 100 6) (σ 105 0) e ∧ ∀ j : Int, 0 ≤ j → j < b → jQf σ (σ 100 5) (σ 100 6) (σ 105 0) e j ≠ jQk σ (σ 100 5) (σ 100 6) (σ 105 0) e)
theorem jW1_at {σ : zS} (h : jB0 σ (σ 100 5) (σ 100 6) < 1000000) : ∃ e : Int, 0 ≤ e ∧ e < 25 ∧ jW1 σ e = jB0 σ (σ 100 5) (σ 100 6) := by
  rcases mMnS_at 1000000 (jW1 σ) 25 with g | ⟨i, h1, h2, h3⟩
  · have : mMnS 1000000 (jW1 σ) 25 = jB0 σ (σ 100 5) (σ 100 6) := rfl
    omega
  · exact ⟨i, h1, h2, h3⟩
theorem jQf_at (σ : zS) (f r ch e : Int) : ∃ b : Int, 0 ≤ b ∧ b < 7 ∧ jQf σ f r ch e b = jQk σ f r ch e := by
  rcases mMnS_at 1000000 (jQf σ f r ch e) 7 with g | ⟨i, h1, h2, h3⟩
  · have : mMnS 1000000 (jQf σ f r ch e) 7 = jQk σ f r ch e := rfl
    have := jQk_b σ f r ch e
    omega
  · exact ⟨i, h1, h2, h3⟩
theorem jSF_w1 {σ τ : zS} (hrd : ∀ r : Int, 0 ≤ r → r ≤ 3 → (0 ≤ σ 101 r ∧ σ 101 r ≤ 20) ∧ (0 ≤ σ 102 r ∧ σ 102 r ≤ 10) ∧ (0 ≤ σ 103 r ∧ σ 103 r ≤ 9)) (hho : 5 ≤ σ 100 7 ∧ σ 100 7 ≤ 20) (hse : (0 ≤ σ 100 5 ∧ σ 100 5 ≤ 3) ∧ (0 ≤ σ 100 6 ∧ σ 100 6 ≤ 3)) (hG : jG σ τ) (hQ : jQ σ τ (σ 100 5) (σ 100 6) (σ 105 0)) (hN : jN σ τ (σ 100 5) (σ 100 6) (σ 100 11 - 1).toNat) {e : Int} (he : 0 ≤ e ∧ e < 25) : jSF τ (σ 100 5) (σ 100 6) (σ 103 (σ 100 5)) (σ 103 (σ 100 6)) 0 (σ 105 0) e = jW1 σ e := by
  have w1 := (hrd _ hse.1.1 hse.1.2).2.2
  have w2 := (hrd _ hse.2.1 hse.2.2).2.2
  unfold jSF jW1 dpF
  rw [hG 103 (by omega), hG 100 (by omega)]
  by_cases hc : mWind (σ 103 (σ 100 5)) (σ 103 (σ 100 5)) (e / 5) < 0 ∨ mWind (σ 103 (σ 100 6)) (σ 103 (σ 100 6)) (e % 5) < 0 ∨ σ 100 7 < mHeat 0 (mSort (σ 105 0))
  · rw [if_pos hc, if_pos hc]
  · rw [if_neg hc, if_neg hc, hQ e he.1 he.2, hN]
    have g1 : mWind (σ 103 (σ 100 5)) (σ 103 (σ 100 5)) (e / 5) ≤ σ 103 (σ 100 5) := by unfold mWind; omega
    have g2 : mWind (σ 103 (σ 100 6)) (σ 103 (σ 100 6)) (e % 5) ≤ σ 103 (σ 100 6) := by unfold mWind; omega
    have g3 := mHeat_b (h := 0) (s := mSort (σ 105 0)) ⟨by omega, by omega⟩
    exact ⟨⟨by omega, g1⟩, ⟨by omega, g2⟩, by omega, by omega⟩
theorem jW1_b {σ : zS} (hpz : 0 ≤ σ 100 8 ∧ σ 100 8 ≤ 99) (e : Int) : 0 ≤ jW1 σ e ∧ jW1 σ e ≤ 2000000 := by
  unfold jW1 dpF
  split
  · omega
  · have h1 := jQk_b σ (σ 100 5) (σ 100 6) (σ 105 0) e
    have h2 := jV_b hpz (σ 100 5) (σ 100 6) (σ 100 11 - 1).toNat (mWind (σ 103 (σ 100 5)) (σ 103 (σ 100 5)) (e / 5)) (mWind (σ 103 (σ 100 6)) (σ 103 (σ 100 6)) (e % 5)) (mHeat 0 (mSort (σ 105 0)))
    show 0 ≤ jQk σ (σ 100 5) (σ 100 6) (σ 105 0) e + _ ∧ jQk σ (σ 100 5) (σ 100 6) (σ 105 0) e + _ ≤ 2000000
    omega
theorem jQf_sb (σ : zS) (f r ch e b : Int) : mSec (mHard (mSort ch)) (mTread (σ 101 f) (σ 102 f) (e / 5) b + mTread (σ 101 r) (σ 102 r) (e % 5) b) = jQf σ f r ch e (b - 4) := by
  unfold jQf
  rw [show 4 + (b - 4) = b by omega]
set_option maxRecDepth 20000 in
set_option maxHeartbeats 4000000 in
theorem c_X8_soonest {l : Launch} {D : va_G} {Y : Nat → ClassId} {a : Int → Nat} (hI : zI a) (σ : zS) (wh : Int) (r1 : R3 wh) (hrb : 0 ≤ σ 100 0 ∧ σ 100 0 ≤ 15) (hse : (0 ≤ σ 100 5 ∧ σ 100 5 ≤ 3) ∧ (0 ≤ σ 100 6 ∧ σ 100 6 ≤ 3)) (hnm : 1 ≤ σ 100 11 ∧ σ 100 11 ≤ 24) (hrd : ∀ r : Int, 0 ≤ r → r ≤ 3 → (0 ≤ σ 101 r ∧ σ 101 r ≤ 20) ∧ (0 ≤ σ 102 r ∧ σ 102 r ≤ 10) ∧ (0 ≤ σ 103 r ∧ σ 103 r ≤ 9)) (hho : 5 ≤ σ 100 7 ∧ σ 100 7 ≤ 20) (hpz : 0 ≤ σ 100 8 ∧ σ 100 8 ≤ 99) (hch : ∀ i : Int, 0 ≤ i → i < 24 → 0 ≤ σ 105 i ∧ σ 105 i ≤ 200) (h115 : jBd σ 115) : zMet l yX8_soonest cX8_soonest 5 (some .int) 6 (zPc D Y a σ [.ref (a 100), .int (iI wh)]) (zQi D Y a (fun r τ => (¬ (mBit (σ 100 0) (σ 100 5) = 1 ∧ mBit (σ 100 0) (σ 100 6) = 1 ∧ σ 100 5 ≠ σ 100 6) → r = -3) ∧ (mBit (σ 100 0) (σ 100 5) = 1 ∧ mBit (σ 100 0) (σ 100 6) = 1 ∧ σ 100 5 ≠ σ 100 6 → ¬ (0 ≤ wh ∧ wh ≤ 1) → r = -2) ∧ (mBit (σ 100 0) (σ 100 5) = 1 ∧ mBit (σ 100 0) (σ 100 6) = 1 ∧ σ 100 5 ≠ σ 100 6 → 0 ≤ wh ∧ wh ≤ 1 → (wh = 0 → r = jS0 σ (σ 100 5) (σ 100 6)) ∧ (wh = 1 → jB0 σ (σ 100 5) (σ 100 6) < 1000000 → ∃ e b : Int, jFe σ e b ∧ r = 100 * (e / 5) + 10 * (e % 5) + b)) ∧ jG σ τ ∧ jBd τ 115)) (inA a) := by
  refine z_start rfl (Nat.le_of_ble_eq_true rfl) hI ?_
  intro p e s m below meth c ls C hr hlocks hl hP
  have hS : va_S (inA a) s.heap s.heap [] := va_S.rf
  have hl : lv_has ls 5 [(0, .ref (a 100)), (1, .int (iI wh))] := hl
  have w1 := (hrd _ hse.1.1 hse.1.2).2.2
  have w2 := (hrd _ hse.2.1 hse.2.2).2.2
  skip
  refine z_aload_n C hl 0 rfl dX8_soonest_0 ?_
  refine z_vSi C hP (As := []) lk_X8_206 (c_X8_isNobody hI σ  hrb hse) ob_100 rfl rfl rfl hl.1 rfl (Nat.le_of_ble_eq_true rfl) ⟨Nat.le_of_ble_eq_true rfl, Nat.le_of_ble_eq_true rfl⟩ ⟨Nat.zero_le _, Nat.zero_le _⟩ dX8_soonest_1 ?_
  by_cases b_1 : ¬ (mBit (σ 100 0) (σ 100 5) = 1 ∧ mBit (σ 100 0) (σ 100 6) = 1 ∧ σ 100 5 ≠ σ 100 6)
  · rw [show (if ¬ (mBit (σ 100 0) (σ 100 5) = 1 ∧ mBit (σ 100 0) (σ 100 6) = 1 ∧ σ 100 5 ≠ σ 100 6) then (1 : Int) else 0) = 1 from if_pos b_1]
    refine z_ifF_eq C 10 dX8_soonest_4 (by decide) ⟨by decide, by decide⟩ (by decide) ?_
    refine z_bipush C (by decide +kernel) dX8_soonest_7 ?_
    exact z_retQi C hP hS hr hlocks rfl (by exact ⟨fun _ => rfl, fun h => absurd h b_1, fun h => absurd h b_1, fun _ _ => rfl, h115⟩) dX8_soonest_9
  · rw [show (if ¬ (mBit (σ 100 0) (σ 100 5) = 1 ∧ mBit (σ 100 0) (σ 100 6) = 1 ∧ σ 100 5 ≠ σ 100 6) then (1 : Int) else 0) = 0 from if_neg b_1]
    refine z_ifT_eq C 10 dX8_soonest_4 (by decide) ⟨by decide, by decide⟩ (by decide) ?_
    refine z_iload_n C hl 1 rfl dX8_soonest_10 ?_
    refine z_i2l C ⟨by omega, by omega⟩ dX8_soonest_11 ?_
    refine z_lconst C (z := 0) rfl dX8_soonest_12 ?_
    refine z_lconst C (z := 1) rfl dX8_soonest_13 ?_
    refine z_sSi C hP (As := [.long (jI wh), .long (jI 0), .long (jI 1)]) lk_X8_86 (c_X8_in hI σ wh 0 1 ⟨by omega, by omega⟩ ⟨by omega, by omega⟩ ⟨by omega, by omega⟩) rfl hl.1 rfl (Nat.le_of_ble_eq_true rfl) ⟨Nat.le_of_ble_eq_true rfl, Nat.le_of_ble_eq_true rfl⟩ ⟨Nat.zero_le _, Nat.zero_le _⟩ dX8_soonest_14 ?_
    by_cases b_14 : 0 ≤ wh ∧ wh ≤ 1
    · rw [show (if 0 ≤ wh ∧ wh ≤ 1 then (1 : Int) else 0) = 1 from if_pos b_14]
      refine z_ifT_ne C 23 dX8_soonest_17 (by decide) ⟨by decide, by decide⟩ (by decide) ?_
      refine z_aload_n C hl 0 rfl dX8_soonest_23 ?_
      refine z_aload_n C hl 0 rfl dX8_soonest_24 ?_
      refine zg_X8_113 C hP dX8_soonest_25 ?_
      refine z_aload_n C hl 0 rfl dX8_soonest_28 ?_
      refine zg_X8_68 C hP dX8_soonest_29 ?_
      refine z_vQi hS C hP (As := [.int (iI (σ 100 5)), .int (iI (σ 100 6))]) lk_X8_252 (c_X8_soonestOf hI σ (σ 100 5) (σ 100 6) hse.1 hse.2 hnm hrd hho hpz hch h115) ob_100 rfl rfl rfl hl.1 rfl (Nat.le_of_ble_eq_true rfl) ⟨Nat.le_of_ble_eq_true rfl, Nat.le_of_ble_eq_true rfl⟩ ⟨Nat.zero_le _, Nat.zero_le _⟩ dX8_soonest_32 (fun r1 t2 H locs hp32 hP hS => ?_)
      have ft2 : jG σ t2 := hp32.2.1
      have hb0 := jBk_b hpz (σ 100 5) (σ 100 6) 0 (σ 100 11 - 1).toNat (σ 103 (σ 100 5)) (σ 103 (σ 100 6)) 0
      rw [show jBk σ (σ 100 5) (σ 100 6) 0 (σ 100 11 - 1).toNat (σ 103 (σ 100 5)) (σ 103 (σ 100 6)) 0 = jB0 σ (σ 100 5) (σ 100 6) from rfl] at hb0
      have hs0 : (jB0 σ (σ 100 5) (σ 100 6) < 1000000 ∧ r1 = jB0 σ (σ 100 5) (σ 100 6)) ∨ (¬ jB0 σ (σ 100 5) (σ 100 6) < 1000000 ∧ r1 = -6) := by rw [hp32.1]; unfold jS0; exact if h0 : jB0 σ (σ 100 5) (σ 100 6) < 1000000 then Or.inl ⟨h0, if_pos h0⟩ else Or.inr ⟨h0, if_neg h0⟩
      refine z_istore_n C [1, 2, 0] [(0, .ref (a 100)), (1, .int (iI wh)), (2, .int (iI r1))] hl (by decide) rfl dX8_soonest_35 (fun ls hl => ?_)
      refine z_iload_n C hl 2 rfl dX8_soonest_36 ?_
      refine z_if_lt C 44 dX8_soonest_37 (by decide) ⟨by omega, by omega⟩ (fun c_37 => ?_) (fun c_37 => ?_)
      · refine z_iload_n C hl 2 rfl dX8_soonest_44 ?_
        exact z_retQi C hP hS hr hlocks rfl (by exact ⟨fun h => absurd h b_1, fun _ h => absurd b_14 h, fun _ _ => ⟨fun _ => (by first | exact hp32.1 | (rw [← hp32.1]; omega)), fun h1 h2 => (by exfalso; omega)⟩, ft2, hp32.2.2.2.2.1⟩) dX8_soonest_45
      · refine z_iload_n C hl 1 rfl dX8_soonest_40 ?_
        refine z_if_ne C 46 dX8_soonest_41 (by decide) ⟨by omega, by omega⟩ (fun c_41 => ?_) (fun c_41 => ?_)
        · have hlt : jB0 σ (σ 100 5) (σ 100 6) < 1000000 := by omega
          have hx0 : r1 = jB0 σ (σ 100 5) (σ 100 6) := by omega
          refine z_iconst C dX8_soonest_46 ?_
          refine z_istore_n C [1, 2, 3, 0] [(0, .ref (a 100)), (1, .int (iI wh)), (2, .int (iI r1)), (3, .int (iI 0))] hl (by decide) rfl dX8_soonest_47 (fun ls hl => ?_)
          have L_48 : ∀ (n : Nat) (ee : Int) (τ : zS) (H : Heap) (locs : List Loc) (hP : GP D Y a τ H) (hS : va_S (inA a) s.heap H locs) (ls : Array Slot), (0 ≤ ee ∧ ee ≤ 25) → (jG σ τ) → (jQ σ τ (σ 100 5) (σ 100 6) (σ 105 0)) → (jN σ τ (σ 100 5) (σ 100 6) (σ 100 11 - 1).toNat) → (jBd τ 115) → (jBd τ 116) → (∀ j : Int, 0 ≤ j → j < ee → jW1 σ j ≠ jB0 σ (σ 100 5) (σ 100 6)) → ((25 - ee).toNat) < n → lv_has ls 5 [(0, .ref (a 100)), (1, .int (iI wh)), (2, .int (iI r1)), (3, .int (iI ee))] → W p l e (zR 6) s m ([.ref (a 100), .int (iI wh)] : List Value).toArray below meth c H locs 0 0 (MQ below (zQi D Y a (fun r τ => (¬ (mBit (σ 100 0) (σ 100 5) = 1 ∧ mBit (σ 100 0) (σ 100 6) = 1 ∧ σ 100 5 ≠ σ 100 6) → r = -3) ∧ (mBit (σ 100 0) (σ 100 5) = 1 ∧ mBit (σ 100 0) (σ 100 6) = 1 ∧ σ 100 5 ≠ σ 100 6 → ¬ (0 ≤ wh ∧ wh ≤ 1) → r = -2) ∧ (mBit (σ 100 0) (σ 100 5) = 1 ∧ mBit (σ 100 0) (σ 100 6) = 1 ∧ σ 100 5 ≠ σ 100 6 → 0 ≤ wh ∧ wh ≤ 1 → (wh = 0 → r = jS0 σ (σ 100 5) (σ 100 6)) ∧ (wh = 1 → jB0 σ (σ 100 5) (σ 100 6) < 1000000 → ∃ e b : Int, jFe σ e b ∧ r = 100 * (e / 5) + 10 * (e % 5) + b)) ∧ jG σ τ ∧ jBd τ 115)) ([.ref (a 100), .int (iI wh)] : List Value).toArray s 0 0 (inA a)) (F0 m 48 ls []) := by
            intro n
            induction n with
            | zero =>
              intros; omega
            | succ n ih_48 =>
              intro ee τ H locs hP hS ls ie fτ qτ nτ bτ cτ iN hm hl
              have he25 : ee < 25 := by obtain ⟨e0, a1, a2, a3⟩ := jW1_at hlt; exact if h : ee < 25 then h else absurd a3 (iN e0 a1 (by omega))
              refine z_aload_n C hl 0 rfl dX8_soonest_48 ?_
              refine z_aload_n C hl 0 rfl dX8_soonest_49 ?_
              refine zg_X8_113 C hP dX8_soonest_50 ?_
              rw [show τ 100 5 = σ 100 5 from by rw [fτ 100 (by omega)]]
              refine z_aload_n C hl 0 rfl dX8_soonest_53 ?_
              refine zg_X8_68 C hP dX8_soonest_54 ?_
              rw [show τ 100 6 = σ 100 6 from by rw [fτ 100 (by omega)]]
              refine z_aload_n C hl 0 rfl dX8_soonest_57 ?_
              refine zg_X8_16 C hP dX8_soonest_58 ?_
              refine z_aload_n C hl 0 rfl dX8_soonest_61 ?_
              refine zg_X8_113 C hP dX8_soonest_62 ?_
              rw [show τ 100 5 = σ 100 5 from by rw [fτ 100 (by omega)]]
              refine z_iald C hP ia_103 ⟨by omega, by omega⟩ dX8_soonest_65 ?_
              rw [show τ 103 (σ 100 5) = σ 103 (σ 100 5) from by rw [fτ 103 (by omega)]]
              refine z_aload_n C hl 0 rfl dX8_soonest_66 ?_
              refine zg_X8_16 C hP dX8_soonest_67 ?_
              refine z_aload_n C hl 0 rfl dX8_soonest_70 ?_
              refine zg_X8_68 C hP dX8_soonest_71 ?_
              rw [show τ 100 6 = σ 100 6 from by rw [fτ 100 (by omega)]]
              refine z_iald C hP ia_103 ⟨by omega, by omega⟩ dX8_soonest_74 ?_
              rw [show τ 103 (σ 100 6) = σ 103 (σ 100 6) from by rw [fτ 103 (by omega)]]
              refine z_iconst C dX8_soonest_75 ?_
              refine z_aload_n C hl 0 rfl dX8_soonest_76 ?_
              refine zg_X8_22 C hP dX8_soonest_77 ?_
              refine z_iconst C dX8_soonest_80 ?_
              refine z_iald C hP ia_105 ⟨by omega, by omega⟩ dX8_soonest_81 ?_
              rw [show τ 105 0 = σ 105 0 from by rw [fτ 105 (by omega)]]
              refine z_iload_n C hl 3 rfl dX8_soonest_82 ?_
              refine z_vSi C hP (As := [.int (iI (σ 100 5)), .int (iI (σ 100 6)), .int (iI (σ 103 (σ 100 5))), .int (iI (σ 103 (σ 100 6))), .int (iI 0), .int (iI (σ 105 0)), .int (iI ee)]) lk_X8_236 (c_X8_secondsFrom hI τ (σ 100 5) (σ 100 6) (σ 103 (σ 100 5)) (σ 103 (σ 100 6)) 0 (σ 105 0) ee hse.1 hse.2 (by rw [fτ 101 (by omega), fτ 102 (by omega), fτ 103 (by omega)]; exact hrd) (by rw [fτ 100 (by omega)]; exact hho) ⟨by omega, by omega⟩ ⟨by omega, by omega⟩ ⟨by decide, by decide⟩ (hch _ (by omega) (by omega)) ⟨by omega, by omega⟩ (by rw [qτ ee (by omega) (by omega)]; have := jQk_b σ (σ 100 5) (σ 100 6) (σ 105 0) ee; omega) cτ) ob_100 rfl rfl rfl hl.1 rfl (Nat.le_of_ble_eq_true rfl) ⟨Nat.le_of_ble_eq_true rfl, Nat.le_of_ble_eq_true rfl⟩ ⟨Nat.zero_le _, Nat.zero_le _⟩ dX8_soonest_83 ?_
              rw [jSF_w1 hrd hho hse fτ qτ nτ ⟨ie.1, by omega⟩]
              have hwb := jW1_b hpz ee
              refine z_iload_n C hl 2 rfl dX8_soonest_86 ?_
              refine z_icmp_eq C 96 dX8_soonest_87 (by decide) ⟨by omega, by omega⟩ ⟨by omega, by omega⟩ (fun c_87 => ?_) (fun c_87 => ?_)
              · refine z_iconst C dX8_soonest_96 ?_
                refine z_istore C [1, 2, 3, 4, 0] [(0, .ref (a 100)), (1, .int (iI wh)), (2, .int (iI r1)), (3, .int (iI ee)), (4, .int (iI 4))] hl (by decide) rfl dX8_soonest_97 (fun ls hl => ?_)
                have L_99 : ∀ (n : Nat) (b : Int) (τ : zS) (H : Heap) (locs : List Loc) (hP : GP D Y a τ H) (hS : va_S (inA a) s.heap H locs) (ls : Array Slot), (4 ≤ b ∧ b ≤ 11) → (jG σ τ) → (jQ σ τ (σ 100 5) (σ 100 6) (σ 105 0)) → (jBd τ 115) → (∀ j : Int, 0 ≤ j → j < b - 4 → jQf σ (σ 100 5) (σ 100 6) (σ 105 0) ee j ≠ jQk σ (σ 100 5) (σ 100 6) (σ 105 0) ee) → ((11 - b).toNat) < n → lv_has ls 5 [(0, .ref (a 100)), (1, .int (iI wh)), (2, .int (iI r1)), (3, .int (iI ee)), (4, .int (iI b))] → W p l e (zR 6) s m ([.ref (a 100), .int (iI wh)] : List Value).toArray below meth c H locs 0 0 (MQ below (zQi D Y a (fun r τ => (¬ (mBit (σ 100 0) (σ 100 5) = 1 ∧ mBit (σ 100 0) (σ 100 6) = 1 ∧ σ 100 5 ≠ σ 100 6) → r = -3) ∧ (mBit (σ 100 0) (σ 100 5) = 1 ∧ mBit (σ 100 0) (σ 100 6) = 1 ∧ σ 100 5 ≠ σ 100 6 → ¬ (0 ≤ wh ∧ wh ≤ 1) → r = -2) ∧ (mBit (σ 100 0) (σ 100 5) = 1 ∧ mBit (σ 100 0) (σ 100 6) = 1 ∧ σ 100 5 ≠ σ 100 6 → 0 ≤ wh ∧ wh ≤ 1 → (wh = 0 → r = jS0 σ (σ 100 5) (σ 100 6)) ∧ (wh = 1 → jB0 σ (σ 100 5) (σ 100 6) < 1000000 → ∃ e b : Int, jFe σ e b ∧ r = 100 * (e / 5) + 10 * (e % 5) + b)) ∧ jG σ τ ∧ jBd τ 115)) ([.ref (a 100), .int (iI wh)] : List Value).toArray s 0 0 (inA a)) (F0 m 99 ls []) := by
                  intro n
                  induction n with
                  | zero =>
                    intros; omega
                  | succ n ih_99 =>
                    intro b τ H locs hP hS ls jb fτ qτ bτ iM hm hl
                    have hb11 : b < 11 := by obtain ⟨e0, a1, a2, a3⟩ := jQf_at σ (σ 100 5) (σ 100 6) (σ 105 0) ee; exact if h : b < 11 then h else absurd a3 (iM e0 a1 (by omega))
                    refine z_aload_n C hl 0 rfl dX8_soonest_99 ?_
                    refine z_aload_n C hl 0 rfl dX8_soonest_100 ?_
                    refine zg_X8_113 C hP dX8_soonest_101 ?_
                    rw [show τ 100 5 = σ 100 5 from by rw [fτ 100 (by omega)]]
                    refine z_aload_n C hl 0 rfl dX8_soonest_104 ?_
                    refine zg_X8_68 C hP dX8_soonest_105 ?_
                    rw [show τ 100 6 = σ 100 6 from by rw [fτ 100 (by omega)]]
                    refine z_aload_n C hl 0 rfl dX8_soonest_108 ?_
                    refine zg_X8_22 C hP dX8_soonest_109 ?_
                    refine z_iconst C dX8_soonest_112 ?_
                    refine z_iald C hP ia_105 ⟨by omega, by omega⟩ dX8_soonest_113 ?_
                    rw [show τ 105 0 = σ 105 0 from by rw [fτ 105 (by omega)]]
                    refine z_iload_n C hl 3 rfl dX8_soonest_114 ?_
                    refine z_iload C hl 4 rfl dX8_soonest_115 ?_
                    refine z_vSi C hP (As := [.int (iI (σ 100 5)), .int (iI (σ 100 6)), .int (iI (σ 105 0)), .int (iI ee), .int (iI b)]) lk_X8_229 (c_X8_secondsBy hI τ (σ 100 5) (σ 100 6) (σ 105 0) ee b hse.1 hse.2 (hch _ (by omega) (by omega)) ⟨by omega, by omega⟩ ⟨by omega, by omega⟩ (by rw [fτ 101 (by omega), fτ 102 (by omega), fτ 103 (by omega)]; exact hrd)) ob_100 rfl rfl rfl hl.1 rfl (Nat.le_of_ble_eq_true rfl) ⟨Nat.le_of_ble_eq_true rfl, Nat.le_of_ble_eq_true rfl⟩ ⟨Nat.zero_le _, Nat.zero_le _⟩ dX8_soonest_117 ?_
                    try rw [show τ 101 = σ 101 from fτ 101 (by omega), show τ 102 = σ 102 from fτ 102 (by omega)]
                    rw [jQf_sb σ (σ 100 5) (σ 100 6) (σ 105 0) ee b]
                    have hqq := qτ ee (by omega) (by omega)
                    have hqb := jQk_b σ (σ 100 5) (σ 100 6) (σ 105 0) ee
                    have hqs : 1 ≤ jQf σ (σ 100 5) (σ 100 6) (σ 105 0) ee (b - 4) ∧ jQf σ (σ 100 5) (σ 100 6) (σ 105 0) ee (b - 4) ≤ 241 := mSec_b (by have := mHard_b (mSort (σ 105 0)); omega)
                    refine z_aload_n C hl 0 rfl dX8_soonest_120 ?_
                    refine zg_X8_58 C hP dX8_soonest_121 ?_
                    refine z_iload_n C hl 3 rfl dX8_soonest_124 ?_
                    refine z_iald C hP ia_117 ⟨by omega, by omega⟩ dX8_soonest_125 ?_
                    refine z_icmp_eq C 135 dX8_soonest_126 (by decide) ⟨by omega, by omega⟩ ⟨by omega, by omega⟩ (fun c_126 => ?_) (fun c_126 => ?_)
                    · refine z_bipush C (by decide +kernel) dX8_soonest_135 ?_
                      refine z_iload_n C hl 3 rfl dX8_soonest_137 ?_
                      refine z_iconst C dX8_soonest_138 ?_
                      refine z_idiv C ⟨by omega, by omega, by omega, by omega⟩ dX8_soonest_139 ?_
                      refine z_imul C dX8_soonest_140 ?_
                      refine z_bipush C (by decide +kernel) dX8_soonest_141 ?_
                      refine z_iload_n C hl 3 rfl dX8_soonest_143 ?_
                      refine z_iconst C dX8_soonest_144 ?_
                      refine z_irem C ⟨by omega, by omega, by omega, by omega⟩ dX8_soonest_145 ?_
                      refine z_imul C dX8_soonest_146 ?_
                      refine z_iadd C dX8_soonest_147 ?_
                      refine z_iload C hl 4 rfl dX8_soonest_148 ?_
                      refine z_iadd C dX8_soonest_150 ?_
                      refine z_iconst C dX8_soonest_151 ?_
                      refine z_isub C dX8_soonest_152 ?_
                      exact z_retQi C hP hS hr hlocks rfl (by exact ⟨fun h => absurd h b_1, fun _ h => absurd b_14 h, fun _ _ => ⟨fun h => (by exfalso; omega), fun _ _ => ⟨ee, b - 4, ⟨⟨ie.1, he25, (by omega), iN⟩, ⟨(by omega), (by omega), (by omega), iM⟩⟩, (by omega)⟩⟩, fτ, bτ⟩) dX8_soonest_153
                    · refine z_iinc C 4 [1, 2, 3, 4, 0] [(0, .ref (a 100)), (1, .int (iI wh)), (2, .int (iI r1)), (3, .int (iI ee)), (4, .int (iI (b + 1)))] hl rfl (by decide) rfl dX8_soonest_129 (fun ls hl => ?_)
                      refine z_goto C 99 dX8_soonest_132 (by decide) ?_
                      exact ih_99 (b + 1) τ H locs hP hS ls (by omega) (by exact fτ) (by exact qτ) (by exact bτ) (by intro j h1 h2; exact if hj : j = b - 4 then (by rw [hj]; omega) else iM j h1 (by omega)) (by omega) (lv_sub hl [0, 1, 2, 3, 4] rfl)
                exact L_99 _ 4 τ _ _ hP hS ls (by omega) (by exact fτ) (by exact qτ) (by exact bτ) (by intro j h1 h2; omega) (Nat.lt_succ_self _) (lv_sub hl [0, 1, 2, 3, 4] rfl)
              · refine z_iinc C 3 [1, 2, 3, 0] [(0, .ref (a 100)), (1, .int (iI wh)), (2, .int (iI r1)), (3, .int (iI (ee + 1)))] hl rfl (by decide) rfl dX8_soonest_90 (fun ls hl => ?_)
                refine z_goto C 48 dX8_soonest_93 (by decide) ?_
                exact ih_48 (ee + 1) τ H locs hP hS ls (by omega) (by exact fτ) (by exact qτ) (by exact nτ) (by exact bτ) (by exact cτ) (by intro j h1 h2; exact if hj : j = ee then (by rw [hj]; omega) else iN j h1 (by omega)) (by omega) (lv_sub hl [0, 1, 2, 3] rfl)
          exact L_48 _ 0 t2 _ _ hP hS ls (by omega) (by exact ft2) (by exact hp32.2.2.1) (by exact hp32.2.2.2.1) (by exact hp32.2.2.2.2.1) (by exact hp32.2.2.2.2.2) (by intro j h1 h2; omega) (Nat.lt_succ_self _) (lv_sub hl [0, 1, 2, 3] rfl)
        · refine z_iload_n C hl 2 rfl dX8_soonest_44 ?_
          exact z_retQi C hP hS hr hlocks rfl (by exact ⟨fun h => absurd h b_1, fun _ h => absurd b_14 h, fun _ _ => ⟨fun _ => (by first | exact hp32.1 | (rw [← hp32.1]; omega)), fun h1 h2 => (by exfalso; omega)⟩, ft2, hp32.2.2.2.2.1⟩) dX8_soonest_45
    · rw [show (if 0 ≤ wh ∧ wh ≤ 1 then (1 : Int) else 0) = 0 from if_neg b_14]
      refine z_ifF_ne C 23 dX8_soonest_17 (by decide) ⟨by decide, by decide⟩ (by decide) ?_
      refine z_bipush C (by decide +kernel) dX8_soonest_20 ?_
      exact z_retQi C hP hS hr hlocks rfl (by exact ⟨fun h => absurd h b_1, fun _ _ => rfl, fun _ h => absurd h b_14, fun _ _ => rfl, h115⟩) dX8_soonest_22
