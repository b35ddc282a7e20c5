def gPT (σ : zS) (p1 p2 e : Int) : Int := mMax7 (fun b => mTread (σ p1 1) (σ p1 2) (e / 5) b + mTread (σ p2 1) (σ p2 2) (e % 5) b)
def kSk (σ ρ : zS) (p1 p2 : Int) : Prop := (∀ c : Int, c < 15 ∨ 22 < c → ρ c = σ c) ∧ ρ 15 13 = σ p1 3 ∧ ρ 15 14 = σ p2 3 ∧ ∀ e : Int, 0 ≤ e → e < 25 → ρ 16 e = gPT σ p1 p2 e
def kSg (ρ τ : zS) (p1 p2 : Int) : Prop := τ 15 0 = kB0 ρ ∧ ∃ e b : Int, kFe ρ e ∧ kLb ρ (mHard (ρ 35 0)) (kQ ρ 0 e) p1 p2 e b ∧ τ 15 1 = 100 * (e / 5) + 10 * (e % 5) + b - 4
theorem kHb_c {σ τ ρ : zS} {n : Int} (h : kHb σ ρ n) (e32 : τ 32 = σ 32) (e35 : τ 35 = σ 35) : kHb τ ρ n := by
  unfold kHb
  rw [e32, e35]
  exact h
theorem kHb_d {σ τ ρ : zS} {n : Int} (h : kHb σ ρ n) (e20 : τ 20 = ρ 20) : kHb σ τ n := by
  unfold kHb
  rw [e20]
  exact h
theorem kBf_c {σ τ : zS} (h : kBf σ) (e15 : τ 15 8 = σ 15 8 ∧ τ 15 9 = σ 15 9) (e21 : τ 21 = σ 21) (e22 : τ 22 = σ 22) : kBf τ := by
  unfold kBf jBd
  rw [e15.1, e15.2, e21, e22]
  exact h
theorem kBf_z {σ τ : zS} {p v j : Int} (h : kBf σ) (hp : p = 21 ∨ p = 22) (hv : 0 ≤ v ∧ v ≤ 1000000) (e : τ = zU σ p j v) : kBf τ := by
  refine ⟨?_, kBd_z h.2.1 e hv, kBd_z h.2.2 e hv⟩
  rw [e, zU_cell (by omega)]
  exact h.1
theorem kN_s {ρ τ : zS} {i : Int} {m : Nat} (hk : kSF ρ τ) {υ : zS} : kN ρ υ i m ↔ kN τ υ i m := by
  have e := kSF_k hk
  unfold kN
  rw [e.1, e.2.1, e.2.2.2, hk.1 32 (by omega), hk.1 20 (by omega)]
theorem kSF_t {σ τ υ : zS} (h : kSF σ τ) (g : kSF τ υ) : kSF σ υ := ⟨fun c hc => (g.1 c hc).trans (h.1 c hc), fun j h1 h2 h3 => (g.2 j h1 h2 h3).trans (h.2 j h1 h2 h3)⟩
theorem kSF_B {ρ τ : zS} {p1 p2 : Int} (hk : kSF ρ τ) (h1 : 40 ≤ p1 ∧ p1 ≤ 43) (h2 : 40 ≤ p2 ∧ p2 ≤ 43) : kB0 τ = kB0 ρ ∧ kF1 τ = kF1 ρ ∧ kTs τ p1 p2 = kTs ρ p1 p2 ∧ kQ τ = kQ ρ := by
  have e := kSF_k hk
  have e32 := hk.1 32 (by omega)
  have e35 := hk.1 35 (by omega)
  refine ⟨?_, ?_, ?_, e.2.2.1⟩
  · unfold kB0 kBk
    rw [e.1, e.2.1, e.2.2.1, e.2.2.2, e32, e35]
  · funext x
    unfold kF1
    rw [e.1, e.2.1, e.2.2.1, e.2.2.2, e32, e35]
  · exact kTs_c (hk.1 p1 (by omega)) (hk.1 p2 (by omega))
theorem kSg_c {ρ τ υ : zS} {p1 p2 : Int} (hk : kSF ρ τ) (h1 : 40 ≤ p1 ∧ p1 ≤ 43) (h2 : 40 ≤ p2 ∧ p2 ≤ 43) (h : υ 15 0 = kB0 τ ∧ ∃ e b : Int, kFe τ e ∧ kLb τ (mHard (τ 35 0)) (kQ τ 0 e) p1 p2 e b ∧ υ 15 1 = 100 * (e / 5) + 10 * (e % 5) + b - 4) : kSg ρ υ p1 p2 := by
  have e := kSF_B hk h1 h2
  unfold kFe kLb at h
  rw [e.1, e.2.1, e.2.2.1, e.2.2.2, hk.1 35 (by omega)] at h
  exact h
set_option maxRecDepth 20000 in
set_option maxHeartbeats 4000000 in
theorem c_X5_seek {l : Launch} {D : va_G} {Y : Nat → ClassId} {a : Int → Nat} (hI : zI a) (σ : zS) (p1 p2 : Int) (hp1 : 40 ≤ p1 ∧ p1 ≤ 43) (hp2 : 40 ≤ p2 ∧ p2 ≤ 43) (hn : 1 ≤ σ 32 12 ∧ σ 32 12 ≤ 24) (hg : ∀ i : Int, 0 ≤ i → i < 24 → -1 ≤ σ 35 i ∧ σ 35 i ≤ 6) (hrd : ∀ r : Int, 0 ≤ r → r ≤ 3 → (0 ≤ σ (40 + r) 1 ∧ σ (40 + r) 1 ≤ 20) ∧ (0 ≤ σ (40 + r) 2 ∧ σ (40 + r) 2 ≤ 10) ∧ (0 ≤ σ (40 + r) 3 ∧ σ (40 + r) 3 ≤ 9) ∧ (0 ≤ σ (40 + r) 4 ∧ σ (40 + r) 4 ≤ 50)) (hho : 5 ≤ σ 32 9 ∧ σ 32 9 ≤ 20) (hpz : 0 ≤ σ 32 10 ∧ σ 32 10 ≤ 99) (hbf : kBf σ) : zMet l yX5_seek cX5_seek 6 none 4 (zPc D Y a σ [.ref (a 15), .ref (a 32), .ref (a p1), .ref (a p2)]) (zQv D Y a (fun τ => (∀ c : Int, c < 15 ∨ 22 < c → τ c = σ c) ∧ kBf τ ∧ (τ 15 10 = σ 15 10 ∧ τ 15 11 = σ 15 11) ∧ ∃ ρ : zS, kSk σ ρ p1 p2 ∧ kSg ρ τ p1 p2)) (inA a) := by
  refine z_start rfl (Nat.le_of_ble_eq_true rfl) hI ?_
  intro p e s m below meth c ls C hr hlocks hl hP
  have hS : va_S (inA a) s.heap s.heap [] := va_S.rf
  have hl : lv_has ls 6 [(0, .ref (a 15)), (1, .ref (a 32)), (2, .ref (a p1)), (3, .ref (a p2))] := hl
  have hq1 := hrd (p1 - 40) (by omega) (by omega)
  rw [show 40 + (p1 - 40) = p1 from (by omega)] at hq1
  have hq2 := hrd (p2 - 40) (by omega) (by omega)
  rw [show 40 + (p2 - 40) = p2 from (by omega)] at hq2
  have hptb : ∀ e : Int, 0 ≤ e → e < 25 → 0 ≤ gPT σ p1 p2 e ∧ gPT σ p1 p2 e ≤ 160 := fun e h1 h2 => mMax7_b (fun b h3 h4 => by have q1 := mTread_b hq1.1 hq1.2.1 (e := e / 5) (b := b) (by omega) (by omega); have q2 := mTread_b hq2.1 hq2.2.1 (e := e % 5) (b := b) (by omega) (by omega); omega)
  have hbv := hbf.1
  skip
  refine z_aload_n C hl 0 rfl dX5_seek_0 ?_
  refine z_aload_n C hl 1 rfl dX5_seek_1 ?_
  refine zg32_X5_39 C hP dX5_seek_2 ?_
  refine zp_X5_45 C hP hS dX5_seek_5 (fun H locs hP hS => ?_)
  obtain ⟨t1, et1⟩ : ∃ z : zS, z = zU σ 15 12 (σ 32 9) := ⟨_, rfl⟩
  rw [← et1] at hP
  refine z_aload_n C hl 0 rfl dX5_seek_8 ?_
  refine z_aload_n C hl 2 rfl dX5_seek_9 ?_
  refine zg_X5_46 C hP (by unfold zRid; omega) dX5_seek_10 ?_
  rw [show t1 p1 3 = σ p1 3 from by rw [et1, zU_cell (by omega)]]
  refine zp_X5_51 C hP hS dX5_seek_13 (fun H locs hP hS => ?_)
  obtain ⟨t2, et2⟩ : ∃ z : zS, z = zU t1 15 13 (σ p1 3) := ⟨_, rfl⟩
  rw [← et2] at hP
  refine z_aload_n C hl 0 rfl dX5_seek_16 ?_
  refine z_aload_n C hl 3 rfl dX5_seek_17 ?_
  refine zg_X5_46 C hP (by unfold zRid; omega) dX5_seek_18 ?_
  rw [show t2 p2 3 = σ p2 3 from by rw [et2, zU_cell (by omega), et1, zU_cell (by omega)]]
  refine zp_X5_54 C hP hS dX5_seek_21 (fun H locs hP hS => ?_)
  obtain ⟨t3, et3⟩ : ∃ z : zS, z = zU t2 15 14 (σ p2 3) := ⟨_, rfl⟩
  rw [← et3] at hP
  refine z_iconst C dX5_seek_24 ?_
  refine z_istore C [1, 2, 3, 4, 0] [(0, .ref (a 15)), (1, .ref (a 32)), (2, .ref (a p1)), (3, .ref (a p2)), (4, .int (iI 0))] hl (by decide) rfl dX5_seek_25 (fun ls hl => ?_)
  have L_27 : ∀ (n : Nat) (ee : Int) (τ : zS) (H : Heap) (locs : List Loc) (hP : GP D Y a τ H) (hS : va_S (inA a) s.heap H locs) (ls : Array Slot), (0 ≤ ee ∧ ee ≤ 25) → (∀ c : Int, c < 15 ∨ 22 < c → τ c = σ c) → (τ 15 12 = σ 32 9 ∧ τ 15 13 = σ p1 3 ∧ τ 15 14 = σ p2 3) → (kBf τ) → (τ 15 10 = σ 15 10 ∧ τ 15 11 = σ 15 11) → (∀ e : Int, 0 ≤ e → e < ee → τ 16 e = gPT σ p1 p2 e) → ((25 - ee).toNat) < n → lv_has ls 6 [(0, .ref (a 15)), (1, .ref (a 32)), (2, .ref (a p1)), (3, .ref (a p2)), (4, .int (iI ee))] → W p l e (zR 4) s m ([.ref (a 15), .ref (a 32), .ref (a p1), .ref (a p2)] : List Value).toArray below meth c H locs 0 0 (MQ below (zQv D Y a (fun τ => (∀ c : Int, c < 15 ∨ 22 < c → τ c = σ c) ∧ kBf τ ∧ (τ 15 10 = σ 15 10 ∧ τ 15 11 = σ 15 11) ∧ ∃ ρ : zS, kSk σ ρ p1 p2 ∧ kSg ρ τ p1 p2)) ([.ref (a 15), .ref (a 32), .ref (a p1), .ref (a p2)] : List Value).toArray s 0 0 (inA a)) (F0 m 27 ls []) := by
    intro n
    induction n with
    | zero =>
      intros; omega
    | succ n ih_27 =>
      intro ee τ H locs hP hS ls ie fτ kτ bτ xτ dτ hm hl
      refine z_iload C hl 4 rfl dX5_seek_27 ?_
      refine z_bipush C (by decide +kernel) dX5_seek_29 ?_
      refine z_icmp_ge C 60 dX5_seek_31 (by decide) ⟨by omega, by omega⟩ ⟨by omega, by omega⟩ (fun c_31 => ?_) (fun c_31 => ?_)
      · refine z_aload_n C hl 0 rfl dX5_seek_60 ?_
        refine z_aload_n C hl 1 rfl dX5_seek_61 ?_
        refine z_vQv hS C hP (As := [.ref (a 32)]) lk_X5_61 (c_X5_findHeats hI τ  (by rw [fτ 32 (by omega)]; exact hn) (by rw [fτ 35 (by omega)]; exact hg) (by rw [fτ 32 (by omega)]; exact hho) (by rw [kτ.1, fτ 32 (by omega)])) ob_15 rfl rfl rfl hl.1 rfl (Nat.le_of_ble_eq_true rfl) ⟨Nat.le_of_ble_eq_true rfl, Nat.le_of_ble_eq_true rfl⟩ ⟨Nat.zero_le _, Nat.zero_le _⟩ dX5_seek_62 (fun t5 H locs hp62 hP hS => ?_)
        have ft5 : ∀ c : Int, c < 15 ∨ 22 < c → t5 c = σ c := fun c hc => by rw [hp62.1 c (by omega), fτ c hc]
        have kt5 : t5 15 12 = σ 32 9 ∧ t5 15 13 = σ p1 3 ∧ t5 15 14 = σ p2 3 := by rw [hp62.1 15 (by omega)]; exact kτ
        have xt5 : t5 15 10 = σ 15 10 ∧ t5 15 11 = σ 15 11 := by rw [hp62.1 15 (by omega)]; exact xτ
        have bt5 : kBf t5 := kBf_c bτ (by rw [hp62.1 15 (by omega)]; exact ⟨rfl, rfl⟩) (hp62.1 21 (by omega)) (hp62.1 22 (by omega))
        have dt5 : ∀ e : Int, 0 ≤ e → e < 25 → t5 16 e = gPT σ p1 p2 e := fun e h1 h2 => by rw [hp62.1 16 (by omega)]; exact dτ e h1 (by omega)
        have ht5 : kHb t5 t5 (σ 32 12) := by have q := hp62.2.1; rw [fτ 32 (by omega)] at q; exact kHb_c q (hp62.1 32 (by omega)) (hp62.1 35 (by omega))
        refine z_iconst C dX5_seek_65 ?_
        refine z_istore C [1, 2, 3, 4, 0] [(0, .ref (a 15)), (1, .ref (a 32)), (2, .ref (a p1)), (3, .ref (a p2)), (4, .int (iI 0))] hl (by decide) rfl dX5_seek_66 (fun ls hl => ?_)
        have L_68 : ∀ (n : Nat) (s0 : Int) (τ : zS) (H : Heap) (locs : List Loc) (hP : GP D Y a τ H) (hS : va_S (inA a) s.heap H locs) (ls : Array Slot), (0 ≤ s0 ∧ s0 ≤ 2100) → (∀ c : Int, c < 15 ∨ 22 < c → τ c = σ c) → (τ 15 12 = σ 32 9 ∧ τ 15 13 = σ p1 3 ∧ τ 15 14 = σ p2 3) → (kBf τ) → (τ 15 10 = σ 15 10 ∧ τ 15 11 = σ 15 11) → (∀ e : Int, 0 ≤ e → e < 25 → τ 16 e = gPT σ p1 p2 e) → (kHb τ τ (σ 32 12)) → (∀ j : Int, 0 ≤ j → j < s0 → τ (τ 15 8) j = 0) → ((2100 - s0).toNat) < n → lv_has ls 6 [(0, .ref (a 15)), (1, .ref (a 32)), (2, .ref (a p1)), (3, .ref (a p2)), (4, .int (iI s0))] → W p l e (zR 4) s m ([.ref (a 15), .ref (a 32), .ref (a p1), .ref (a p2)] : List Value).toArray below meth c H locs 0 0 (MQ below (zQv D Y a (fun τ => (∀ c : Int, c < 15 ∨ 22 < c → τ c = σ c) ∧ kBf τ ∧ (τ 15 10 = σ 15 10 ∧ τ 15 11 = σ 15 11) ∧ ∃ ρ : zS, kSk σ ρ p1 p2 ∧ kSg ρ τ p1 p2)) ([.ref (a 15), .ref (a 32), .ref (a p1), .ref (a p2)] : List Value).toArray s 0 0 (inA a)) (F0 m 68 ls []) := by
          intro n
          induction n with
          | zero =>
            intros; omega
          | succ n ih_68 =>
            intro s0 τ H locs hP hS ls is fτ kτ bτ xτ dτ hτ zτ hm hl
            have hbt := bτ.1
            refine z_iload C hl 4 rfl dX5_seek_68 ?_
            refine z_aload_n C hl 0 rfl dX5_seek_70 ?_
            refine zg_X5_27 C hP dX5_seek_71 ?_
            refine z_alen C hP (ia_on (by omega)) dX5_seek_74 ?_
            refine z_icmp_ge C 92 dX5_seek_75 (by decide) ⟨by omega, by omega⟩ ⟨by omega, by omega⟩ (fun c_75 => ?_) (fun c_75 => ?_)
            · obtain ⟨ρ, hρ⟩ : ∃ z : zS, z = τ := ⟨_, rfl⟩
              have hsk : kSk σ ρ p1 p2 := by rw [hρ]; exact ⟨fτ, kτ.2.1, kτ.2.2, dτ⟩
              refine z_aload_n C hl 1 rfl dX5_seek_92 ?_
              refine zg32_X5_65 C hP dX5_seek_93 ?_
              rw [show τ 32 12 = σ 32 12 from by rw [fτ 32 (by omega)]]
              refine z_iconst C dX5_seek_96 ?_
              refine z_isub C dX5_seek_97 ?_
              refine z_topi (fun x6 hx6 => ?_)
              refine z_istore C [1, 2, 3, 4, 0] [(0, .ref (a 15)), (1, .ref (a 32)), (2, .ref (a p1)), (3, .ref (a p2)), (4, .int (iI x6))] hl (by decide) rfl dX5_seek_98 (fun ls hl => ?_)
              have L_100 : ∀ (n : Nat) (k : Int) (τ : zS) (H : Heap) (locs : List Loc) (hP : GP D Y a τ H) (hS : va_S (inA a) s.heap H locs) (ls : Array Slot), (0 ≤ k ∧ k ≤ σ 32 12 - 1) → (∀ c : Int, c < 15 ∨ 22 < c → τ c = σ c) → (τ 15 12 = σ 32 9 ∧ τ 15 13 = σ p1 3 ∧ τ 15 14 = σ p2 3) → (kBf τ) → (τ 15 10 = σ 15 10 ∧ τ 15 11 = σ 15 11) → (∀ e : Int, 0 ≤ e → e < 25 → τ 16 e = gPT σ p1 p2 e) → (kHb τ τ (σ 32 12)) → (kSF ρ τ) → (kN ρ τ (k + 1) (σ 32 12 - 1 - k).toNat) → (k.toNat) < n → lv_has ls 6 [(0, .ref (a 15)), (1, .ref (a 32)), (2, .ref (a p1)), (3, .ref (a p2)), (4, .int (iI k))] → W p l e (zR 4) s m ([.ref (a 15), .ref (a 32), .ref (a p1), .ref (a p2)] : List Value).toArray below meth c H locs 0 0 (MQ below (zQv D Y a (fun τ => (∀ c : Int, c < 15 ∨ 22 < c → τ c = σ c) ∧ kBf τ ∧ (τ 15 10 = σ 15 10 ∧ τ 15 11 = σ 15 11) ∧ ∃ ρ : zS, kSk σ ρ p1 p2 ∧ kSg ρ τ p1 p2)) ([.ref (a 15), .ref (a 32), .ref (a p1), .ref (a p2)] : List Value).toArray s 0 0 (inA a)) (F0 m 100 ls []) := by
                intro n
                induction n with
                | zero =>
                  intros; omega
                | succ n ih_100 =>
                  intro k τ H locs hP hS ls ik fτ kτ bτ xτ dτ hτ sτ nτ hm hl
                  have hbt := bτ.1
                  refine z_iload C hl 4 rfl dX5_seek_100 ?_
                  refine z_iconst C dX5_seek_102 ?_
                  refine z_icmp_lt C 134 dX5_seek_103 (by decide) ⟨by omega, by omega⟩ ⟨by omega, by omega⟩ (fun c_103 => ?_) (fun c_103 => ?_)
                  · refine z_aload_n C hl 0 rfl dX5_seek_134 ?_
                    refine z_aload_n C hl 1 rfl dX5_seek_135 ?_
                    refine zg32_X5_68 C hP dX5_seek_136 ?_
                    refine z_iconst C dX5_seek_139 ?_
                    refine z_iald C hP ia_35 ⟨by omega, by omega⟩ dX5_seek_140 ?_
                    refine z_vQi hS C hP (As := [.int (iI (τ 35 0))]) lk_X5_78 (c_X5_chooseFirst hI τ  (by rw [fτ 32 (by omega)]; exact hn) (by rw [fτ 35 (by omega)]; exact hg) (by rw [fτ 32 (by omega)]; exact hho) (by rw [fτ 32 (by omega)]; exact hpz) (by rw [kτ.1, fτ 32 (by omega)]) (by rw [kτ.2.1]; exact hq1.2.2.1) (by rw [kτ.2.2]; exact hq2.2.2.1) bτ.1 (fun e h1 h2 => by rw [dτ e h1 h2]; exact hptb e h1 h2) bτ.2.1 bτ.2.2 (by rw [fτ 32 (by omega)]; exact hτ) (by have q := nτ; rw [show k + 1 = (1 : Int) from (by omega)] at q; rw [fτ 32 (by omega), show (σ 32 12 - 1).toNat = (σ 32 12 - 1 - k).toNat from (by omega)]; exact (kN_s sτ).1 q)) ob_15 rfl rfl rfl hl.1 rfl (Nat.le_of_ble_eq_true rfl) ⟨Nat.le_of_ble_eq_true rfl, Nat.le_of_ble_eq_true rfl⟩ ⟨Nat.zero_le _, Nat.zero_le _⟩ dX5_seek_141 (fun r7 t8 H locs hp141 hP hS => ?_)
                    have ft8 : ∀ c : Int, c < 15 ∨ 22 < c → t8 c = σ c := fun c hc => by rw [hp141.1.1 c (by omega), fτ c hc]
                    have dt8 : ∀ e : Int, 0 ≤ e → e < 25 → t8 16 e = gPT σ p1 p2 e := fun e h1 h2 => by rw [hp141.1.1 16 (by omega)]; exact dτ e h1 h2
                    have hre : 0 ≤ r7 ∧ r7 < 25 := hp141.2.2.1
                    have hg0 : -1 ≤ t8 35 0 ∧ t8 35 0 ≤ 6 := by rw [ft8 35 (by omega)]; exact hg 0 (by omega) (by omega)
                    have hh0 := mHard_b (t8 35 0)
                    refine z_istore C [1, 2, 3, 4, 0] [(0, .ref (a 15)), (1, .ref (a 32)), (2, .ref (a p1)), (3, .ref (a p2)), (4, .int (iI r7))] hl (by decide) rfl dX5_seek_144 (fun ls hl => ?_)
                    refine z_iload C hl 4 rfl dX5_seek_146 ?_
                    refine z_bipush C (by decide +kernel) dX5_seek_148 ?_
                    refine z_icmp_ne C 162 dX5_seek_150 (by decide) ⟨by omega, by omega⟩ ⟨by omega, by omega⟩ (fun c_150 => ?_) (fun c_150 => ?_)
                    · refine z_aload_n C hl 0 rfl dX5_seek_162 ?_
                      refine z_iload C hl 4 rfl dX5_seek_163 ?_
                      refine z_aload_n C hl 1 rfl dX5_seek_165 ?_
                      refine zg32_X5_68 C hP dX5_seek_166 ?_
                      refine z_iconst C dX5_seek_169 ?_
                      refine z_iald C hP ia_35 ⟨by omega, by omega⟩ dX5_seek_170 ?_
                      refine z_sSi C hP (As := [.int (iI (t8 35 0))]) lk_X5_85 (c_X0_hardOf hI t8 (t8 35 0) (by omega)) rfl hl.1 rfl (Nat.le_of_ble_eq_true rfl) ⟨Nat.le_of_ble_eq_true rfl, Nat.le_of_ble_eq_true rfl⟩ ⟨Nat.zero_le _, Nat.zero_le _⟩ dX5_seek_171 ?_
                      refine z_aload_n C hl 2 rfl dX5_seek_174 ?_
                      refine z_aload_n C hl 3 rfl dX5_seek_175 ?_
                      refine z_vQi hS C hP (As := [.int (iI r7), .int (iI (mHard (t8 35 0))), .ref (a p1), .ref (a p2)]) lk_X5_90 (c_X5_leastBeatFor hI t8 r7 (mHard (t8 35 0)) p1 p2 hp1 hp2 (by rw [ft8 p1 (by omega)]; exact ⟨hq1.1, hq1.2.1⟩) (by rw [ft8 p2 (by omega)]; exact ⟨hq2.1, hq2.2.1⟩) (fun e h1 h2 => by rw [dt8 e h1 h2]; exact hptb e h1 h2) hre hh0) ob_15 rfl rfl rfl hl.1 rfl (Nat.le_of_ble_eq_true rfl) ⟨Nat.le_of_ble_eq_true rfl, Nat.le_of_ble_eq_true rfl⟩ ⟨Nat.zero_le _, Nat.zero_le _⟩ dX5_seek_176 (fun r9 t10 H locs hp176 hP hS => ?_)
                      have hlb : kLb τ (mHard (τ 35 0)) (kQ τ 0 r7) p1 p2 r7 r9 := by have q := hp176.1; unfold kLb at q ⊢; rw [kTs_c (hp141.1.1 p1 (by omega)) (hp141.1.1 p2 (by omega)), hp141.1.1 35 (by omega), hp141.1.1 16 (by omega)] at q; exact q
                      have et10 := hp176.2
                      have hrb : 4 ≤ r9 ∧ r9 ≤ 10 := hp176.1.1
                      refine z_istore C [1, 2, 3, 4, 5, 0] [(0, .ref (a 15)), (1, .ref (a 32)), (2, .ref (a p1)), (3, .ref (a p2)), (4, .int (iI r7)), (5, .int (iI r9))] hl (by decide) rfl dX5_seek_179 (fun ls hl => ?_)
                      refine z_aload_n C hl 0 rfl dX5_seek_181 ?_
                      refine z_bipush C (by decide +kernel) dX5_seek_182 ?_
                      refine z_iload C hl 4 rfl dX5_seek_184 ?_
                      refine z_iconst C dX5_seek_186 ?_
                      refine z_idiv C ⟨by omega, by omega, by omega, by omega⟩ dX5_seek_187 ?_
                      refine z_imul C dX5_seek_188 ?_
                      refine z_bipush C (by decide +kernel) dX5_seek_189 ?_
                      refine z_iload C hl 4 rfl dX5_seek_191 ?_
                      refine z_iconst C dX5_seek_193 ?_
                      refine z_irem C ⟨by omega, by omega, by omega, by omega⟩ dX5_seek_194 ?_
                      refine z_imul C dX5_seek_195 ?_
                      refine z_iadd C dX5_seek_196 ?_
                      refine z_iload C hl 5 rfl dX5_seek_197 ?_
                      refine z_iadd C dX5_seek_199 ?_
                      refine z_iconst C dX5_seek_200 ?_
                      refine z_isub C dX5_seek_201 ?_
                      refine zp_X5_82 C hP hS dX5_seek_202 (fun H locs hP hS => ?_)
                      obtain ⟨t11, et11⟩ : ∃ z : zS, z = zU t10 15 1 ((((100 * (r7 / 5)) + (10 * (r7 % 5))) + r9) - 4) := ⟨_, rfl⟩
                      rw [← et11] at hP
                      exact z_retQv C hP hS hr hlocks (by exact ⟨fun c hc => (by rw [et11, zU_cell (by omega), et10]; exact ft8 c hc), kBf_c bτ ⟨(by rw [et11, zU_place (by decide), et10]; exact hp141.1.2 8 (by omega)), (by rw [et11, zU_place (by decide), et10]; exact hp141.1.2 9 (by omega))⟩ (by rw [et11, zU_cell (by decide), et10]; exact hp141.1.1 21 (by omega)) (by rw [et11, zU_cell (by decide), et10]; exact hp141.1.1 22 (by omega)), ⟨(by rw [et11, zU_place (by decide), et10]; exact (hp141.1.2 10 (by omega)).trans xτ.1), (by rw [et11, zU_place (by decide), et10]; exact (hp141.1.2 11 (by omega)).trans xτ.2)⟩, ρ, hsk, kSg_c sτ hp1 hp2 ⟨(by rw [et11, zU_place (by decide), et10]; exact hp141.2.1), r7, r9, hp141.2.2, hlb, (by rw [et11, zU_same])⟩⟩) dX5_seek_205
                    · exfalso; omega
                  · refine z_aload_n C hl 0 rfl dX5_seek_106 ?_
                    refine z_aload_n C hl 1 rfl dX5_seek_107 ?_
                    refine zg32_X5_68 C hP dX5_seek_108 ?_
                    refine z_iload C hl 4 rfl dX5_seek_111 ?_
                    refine z_iald C hP ia_35 ⟨by omega, by omega⟩ dX5_seek_113 ?_
                    refine z_aload_n C hl 0 rfl dX5_seek_114 ?_
                    refine zg_X5_24 C hP dX5_seek_115 ?_
                    refine z_iload C hl 4 rfl dX5_seek_118 ?_
                    refine z_iald C hP ia_20 ⟨by omega, by omega⟩ dX5_seek_120 ?_
                    refine z_aload_n C hl 1 rfl dX5_seek_121 ?_
                    refine zg32_X5_71 C hP dX5_seek_122 ?_
                    refine z_vQv hS C hP (As := [.int (iI (τ 35 k)), .int (iI (τ 20 k)), .int (iI (τ 32 10))]) lk_X5_74 (c_X5_stepAhead hI τ k (by rw [fτ 32 (by omega)]; exact hn) (by rw [fτ 35 (by omega)]; exact hg) (by rw [fτ 32 (by omega)]; exact hho) (by rw [fτ 32 (by omega)]; exact hpz) (by rw [kτ.1, fτ 32 (by omega)]) (by rw [kτ.2.1]; exact hq1.2.2.1) (by rw [kτ.2.2]; exact hq2.2.2.1) bτ.1 (fun e h1 h2 => by rw [dτ e h1 h2]; exact hptb e h1 h2) bτ.2.1 bτ.2.2 (by rw [fτ 32 (by omega)]; exact hτ) (by rw [fτ 32 (by omega)]; omega) (by rw [fτ 32 (by omega)]; exact (kN_s sτ).1 nτ)) ob_15 rfl rfl rfl hl.1 rfl (Nat.le_of_ble_eq_true rfl) ⟨Nat.le_of_ble_eq_true rfl, Nat.le_of_ble_eq_true rfl⟩ ⟨Nat.zero_le _, Nat.zero_le _⟩ dX5_seek_125 (fun t13 H locs hp125 hP hS => ?_)
                    have st13 : kSF ρ t13 := kSF_t sτ hp125.1
                    have ft13 : ∀ c : Int, c < 15 ∨ 22 < c → t13 c = σ c := fun c hc => by rw [hp125.1.1 c (by omega), fτ c hc]
                    have kt13 : t13 15 12 = σ 32 9 ∧ t13 15 13 = σ p1 3 ∧ t13 15 14 = σ p2 3 := by rw [hp125.1.2 12 (by omega) (by omega) (by omega), hp125.1.2 13 (by omega) (by omega) (by omega), hp125.1.2 14 (by omega) (by omega) (by omega)]; exact kτ
                    have xt13 : t13 15 10 = σ 15 10 ∧ t13 15 11 = σ 15 11 := by rw [hp125.1.2 10 (by omega) (by omega) (by omega), hp125.1.2 11 (by omega) (by omega) (by omega)]; exact xτ
                    have dt13 : ∀ e : Int, 0 ≤ e → e < 25 → t13 16 e = gPT σ p1 p2 e := fun e h1 h2 => by rw [hp125.1.1 16 (by omega)]; exact dτ e h1 h2
                    have ht13 : kHb t13 t13 (σ 32 12) := kHb_d (kHb_c hτ (hp125.1.1 32 (by omega)) (hp125.1.1 35 (by omega))) (hp125.1.1 20 (by omega))
                    refine z_iinc C 4 [1, 2, 3, 4, 0] [(0, .ref (a 15)), (1, .ref (a 32)), (2, .ref (a p1)), (3, .ref (a p2)), (4, .int (iI (k + (-1))))] hl rfl (by decide) rfl dX5_seek_128 (fun ls hl => ?_)
                    refine z_goto C 100 dX5_seek_131 (by decide) ?_
                    exact ih_100 (k + (-1)) t13 H locs hP hS ls (by omega) (by exact ft13) (by exact kt13) (by exact hp125.2.1) (by exact xt13) (by exact dt13) (by exact ht13) (by exact st13) (by have q := (kN_s sτ).2 hp125.2.2; rw [fτ 32 (by omega), show (σ 32 12 - k).toNat = (σ 32 12 - 1 - (k + (-1))).toNat from (by omega)] at q; rw [show k + (-1) + 1 = k from (by omega)]; exact q) (by omega) (lv_sub hl [0, 1, 2, 3, 4] rfl)
              exact L_100 _ x6 τ _ _ hP hS ls (by omega) (by exact fτ) (by exact kτ) (by exact bτ) (by exact xτ) (by exact dτ) (by exact hτ) (by rw [hρ]; exact ⟨fun _ _ => rfl, fun _ _ _ _ => rfl⟩) (by intro x y h h1 h2 h3 h4; rw [show (σ 32 12 - 1 - x6).toNat = 0 from (by omega)]; unfold kW1 at h1; unfold kW2 at h2; rw [hρ, kτ.2.1] at h1; rw [hρ, kτ.2.2] at h2; rw [hρ, fτ 32 (by omega)] at h3; exact zτ _ (by unfold mCell; omega) (by unfold mCell; omega)) (Nat.lt_succ_self _) (lv_sub hl [0, 1, 2, 3, 4] rfl)
            · have hbt := bτ.1
              refine z_aload_n C hl 0 rfl dX5_seek_78 ?_
              refine zg_X5_27 C hP dX5_seek_79 ?_
              refine z_iload C hl 4 rfl dX5_seek_82 ?_
              refine z_iconst C dX5_seek_84 ?_
              refine z_iast C hP hS (ia_on (by omega)) ⟨by omega, by omega⟩ dX5_seek_85 (fun H locs hP hS => ?_)
              obtain ⟨t14, et14⟩ : ∃ z : zS, z = zU τ (τ 15 8) s0 0 := ⟨_, rfl⟩
              rw [← et14] at hP
              refine z_iinc C 4 [1, 2, 3, 4, 0] [(0, .ref (a 15)), (1, .ref (a 32)), (2, .ref (a p1)), (3, .ref (a p2)), (4, .int (iI (s0 + 1)))] hl rfl (by decide) rfl dX5_seek_86 (fun ls hl => ?_)
              refine z_goto C 68 dX5_seek_89 (by decide) ?_
              exact ih_68 (s0 + 1) t14 H locs hP hS ls (by omega) (by intro c hc; rw [et14, zU_cell (by omega)]; exact fτ c hc) (by rw [et14, zU_cell (by omega)]; exact kτ) (by exact kBf_z bτ (by omega) (by decide) et14) (by rw [et14, zU_cell (by omega)]; exact xτ) (by intro e h1 h2; rw [et14, zU_cell (by omega)]; exact dτ e h1 h2) (by exact kHb_d (kHb_c hτ (by rw [et14, zU_cell (by omega)]) (by rw [et14, zU_cell (by omega)])) (by rw [et14, zU_cell (by omega)])) (by intro j h1 h2; have e8 : t14 15 8 = τ 15 8 := (by rw [et14, zU_cell (by omega)]); rw [e8]; exact if hj : j = s0 then (by rw [hj, et14, zU_same]) else (by rw [et14, zU_place hj]; exact zτ j h1 (by omega))) (by omega) (lv_sub hl [0, 1, 2, 3, 4] rfl)
        exact L_68 _ 0 t5 _ _ hP hS ls (by omega) (by exact ft5) (by exact kt5) (by exact bt5) (by exact xt5) (by exact dt5) (by exact ht5) (by intro j h1 h2; omega) (Nat.lt_succ_self _) (lv_sub hl [0, 1, 2, 3, 4] rfl)
      · refine z_aload_n C hl 0 rfl dX5_seek_34 ?_
        refine zg_X5_9 C hP dX5_seek_35 ?_
        refine z_iload C hl 4 rfl dX5_seek_38 ?_
        refine z_aload_n C hl 2 rfl dX5_seek_40 ?_
        refine z_iload C hl 4 rfl dX5_seek_41 ?_
        refine z_iconst C dX5_seek_43 ?_
        refine z_idiv C ⟨by omega, by omega, by omega, by omega⟩ dX5_seek_44 ?_
        refine z_aload_n C hl 3 rfl dX5_seek_45 ?_
        refine z_iload C hl 4 rfl dX5_seek_46 ?_
        refine z_iconst C dX5_seek_48 ?_
        refine z_irem C ⟨by omega, by omega, by omega, by omega⟩ dX5_seek_49 ?_
        refine z_nSi C hP (As := [.ref (a p1), .int (iI (ee / 5)), .ref (a p2), .int (iI (ee % 5))]) lk_X5_57 (c_X7_mostTreads hI τ p1 (ee / 5) p2 (ee % 5) (by unfold zRid; omega) (by rw [fτ p1 (by omega)]; exact hq1.1) (by rw [fτ p1 (by omega)]; exact hq1.2.1) ⟨by omega, by omega⟩ (by unfold zRid; omega) (by rw [fτ p2 (by omega)]; exact hq2.1) (by rw [fτ p2 (by omega)]; exact hq2.2.1) ⟨by omega, by omega⟩) rfl hl.1 rfl (Nat.le_of_ble_eq_true rfl) ⟨Nat.le_of_ble_eq_true rfl, Nat.le_of_ble_eq_true rfl⟩ ⟨Nat.zero_le _, Nat.zero_le _⟩ dX5_seek_50 ?_
        rw [fτ p1 (by omega), fτ p2 (by omega)]
        rw [show mMax7 (fun b => mTread (σ p1 1) (σ p1 2) (ee / 5) b + mTread (σ p2 1) (σ p2 2) (ee % 5) b) = gPT σ p1 p2 ee from rfl]
        refine z_iast C hP hS ia_16 ⟨by omega, by omega⟩ dX5_seek_53 (fun H locs hP hS => ?_)
        obtain ⟨t15, et15⟩ : ∃ z : zS, z = zU τ 16 ee (gPT σ p1 p2 ee) := ⟨_, rfl⟩
        rw [← et15] at hP
        refine z_iinc C 4 [1, 2, 3, 4, 0] [(0, .ref (a 15)), (1, .ref (a 32)), (2, .ref (a p1)), (3, .ref (a p2)), (4, .int (iI (ee + 1)))] hl rfl (by decide) rfl dX5_seek_54 (fun ls hl => ?_)
        refine z_goto C 27 dX5_seek_57 (by decide) ?_
        exact ih_27 (ee + 1) t15 H locs hP hS ls (by omega) (by intro c hc; rw [et15, zU_cell (by omega)]; exact fτ c hc) (by rw [et15, zU_cell (by decide)]; exact kτ) (by exact kBf_c bτ (by rw [et15, zU_cell (by decide)]; exact ⟨rfl, rfl⟩) (by rw [et15, zU_cell (by decide)]) (by rw [et15, zU_cell (by decide)])) (by rw [et15, zU_cell (by decide)]; exact xτ) (by intro e h1 h2; exact if he : e = ee then (by rw [he, et15, zU_same]) else (by rw [et15, zU_place he]; exact dτ e h1 (by omega))) (by omega) (lv_sub hl [0, 1, 2, 3, 4] rfl)
  exact L_27 _ 0 t3 _ _ hP hS ls (by omega) (by intro c hc; rw [et3, et2, et1, zU_cell (by omega), zU_cell (by omega), zU_cell (by omega)]) (by exact ⟨(by rw [et3, et2, et1, zU_place (by decide), zU_place (by decide), zU_same]), (by rw [et3, et2, et1, zU_place (by decide), zU_same]), (by rw [et3, et2, et1, zU_same])⟩) (by exact kBf_c hbf ⟨(by rw [et3, et2, et1, zU_place (by decide), zU_place (by decide), zU_place (by decide)]), (by rw [et3, et2, et1, zU_place (by decide), zU_place (by decide), zU_place (by decide)])⟩ (by rw [et3, et2, et1, zU_cell (by decide), zU_cell (by decide), zU_cell (by decide)]) (by rw [et3, et2, et1, zU_cell (by decide), zU_cell (by decide), zU_cell (by decide)])) (by exact ⟨(by rw [et3, et2, et1, zU_place (by decide), zU_place (by decide), zU_place (by decide)]), (by rw [et3, et2, et1, zU_place (by decide), zU_place (by decide), zU_place (by decide)])⟩) (by intro e h1 h2; omega) (Nat.lt_succ_self _) (lv_sub hl [0, 1, 2, 3, 4] rfl)

set_option maxRecDepth 20000 in
set_option maxHeartbeats 4000000 in
theorem c_X7_soonest {l : Launch} {D : va_G} {Y : Nat → ClassId} {a : Int → Nat} (hI : zI a) (σ : zS) (wh : Int) (r1 : R3 wh) (hth : ∀ r : Int, 0 ≤ r → r ≤ 3 → σ (40 + r) 0 = 0 ∨ σ (40 + r) 0 = 1) (hse : (0 ≤ σ 32 7 ∧ σ 32 7 ≤ 3) ∧ (0 ≤ σ 32 8 ∧ σ 32 8 ≤ 3)) (hrd : ∀ r : Int, 0 ≤ r → r ≤ 3 → (0 ≤ σ (40 + r) 1 ∧ σ (40 + r) 1 ≤ 20) ∧ (0 ≤ σ (40 + r) 2 ∧ σ (40 + r) 2 ≤ 10) ∧ (0 ≤ σ (40 + r) 3 ∧ σ (40 + r) 3 ≤ 9) ∧ (0 ≤ σ (40 + r) 4 ∧ σ (40 + r) 4 ≤ 50)) (hn : 1 ≤ σ 32 12 ∧ σ 32 12 ≤ 24) (hg : ∀ i : Int, 0 ≤ i → i < 24 → -1 ≤ σ 35 i ∧ σ 35 i ≤ 6) (hho : 5 ≤ σ 32 9 ∧ σ 32 9 ≤ 20) (hpz : 0 ≤ σ 32 10 ∧ σ 32 10 ≤ 99) (hbf : kBf σ) : zMet l yX7_soonest cX7_soonest 2 (some .int) 5 (zPc D Y a σ [.ref (a 0), .int (iI wh)]) (zQi D Y a (fun r τ => (¬ (σ (40 + σ 32 7) 0 = 1 ∧ σ (40 + σ 32 8) 0 = 1) → r = -3) ∧ (σ (40 + σ 32 7) 0 = 1 ∧ σ (40 + σ 32 8) 0 = 1 → ¬ (0 ≤ wh ∧ wh ≤ 1) → r = -2) ∧ (σ (40 + σ 32 7) 0 = 1 ∧ σ (40 + σ 32 8) 0 = 1 → 0 ≤ wh ∧ wh ≤ 1 → ∃ ρ : zS, kSk σ ρ (40 + σ 32 7) (40 + σ 32 8) ∧ (wh = 0 → r = kB0 ρ) ∧ (wh = 1 → ∃ e b : Int, kFe ρ e ∧ kLb ρ (mHard (ρ 35 0)) (kQ ρ 0 e) (40 + σ 32 7) (40 + σ 32 8) e b ∧ r = 100 * (e / 5) + 10 * (e % 5) + b - 4)) ∧ (∀ c : Int, c < 15 ∨ 22 < c → τ c = σ c) ∧ kBf τ ∧ τ 15 10 = σ 15 10 ∧ τ 15 11 = σ 15 11)) (inA a) := by
  refine z_start rfl (Nat.le_of_ble_eq_true rfl) hI ?_
  intro p e s m below meth c ls C hr hlocks hl hP
  have hS : va_S (inA a) s.heap s.heap [] := va_S.rf
  have hl : lv_has ls 2 [(0, .ref (a 0)), (1, .int (iI wh))] := hl
  skip
  refine z_aload_n C hl 0 rfl dX7_soonest_0 ?_
  refine z_vSi C hP (As := []) lk_X7_122 (c_X7_areSeated hI σ  hth hse) ob_0 rfl rfl rfl hl.1 rfl (Nat.le_of_ble_eq_true rfl) ⟨Nat.le_of_ble_eq_true rfl, Nat.le_of_ble_eq_true rfl⟩ ⟨Nat.zero_le _, Nat.zero_le _⟩ dX7_soonest_1 ?_
  by_cases b_1 : σ (40 + σ 32 7) 0 = 1 ∧ σ (40 + σ 32 8) 0 = 1
  · rw [show (if σ (40 + σ 32 7) 0 = 1 ∧ σ (40 + σ 32 8) 0 = 1 then (1 : Int) else 0) = 1 from if_pos b_1]
    refine z_ifT_ne C 10 dX7_soonest_4 (by decide) ⟨by decide, by decide⟩ (by decide) ?_
    refine z_iload_n C hl 1 rfl dX7_soonest_10 ?_
    refine z_iconst C dX7_soonest_11 ?_
    refine z_iconst C dX7_soonest_12 ?_
    refine z_sSi C hP (As := [.int (iI wh), .int (iI 0), .int (iI 1)]) lk_X7_52 (c_X7_isWithin hI σ wh 0 1 r1 ⟨by decide, by decide⟩ ⟨by decide, by decide⟩) rfl hl.1 rfl (Nat.le_of_ble_eq_true rfl) ⟨Nat.le_of_ble_eq_true rfl, Nat.le_of_ble_eq_true rfl⟩ ⟨Nat.zero_le _, Nat.zero_le _⟩ dX7_soonest_13 ?_
    by_cases b_13 : 0 ≤ wh ∧ wh ≤ 1
    · rw [show (if 0 ≤ wh ∧ wh ≤ 1 then (1 : Int) else 0) = 1 from if_pos b_13]
      refine z_ifT_ne C 22 dX7_soonest_16 (by decide) ⟨by decide, by decide⟩ (by decide) ?_
      refine z_aload_n C hl 0 rfl dX7_soonest_22 ?_
      refine zg_X7_48 C hP dX7_soonest_23 ?_
      refine z_aload_n C hl 0 rfl dX7_soonest_26 ?_
      refine zg_X7_12 C hP dX7_soonest_27 ?_
      refine z_aload_n C hl 0 rfl dX7_soonest_30 ?_
      refine zg_X7_12 C hP dX7_soonest_31 ?_
      refine z_vSr C hP (As := []) lk_X7_171 (c_X6_riderInFront hI σ  hse.1) (ob_set (by unfold zSet; omega)) rfl rfl rfl hl.1 rfl (Nat.le_of_ble_eq_true rfl) ⟨Nat.le_of_ble_eq_true rfl, Nat.le_of_ble_eq_true rfl⟩ ⟨Nat.zero_le _, Nat.zero_le _⟩ dX7_soonest_34 ?_
      refine z_aload_n C hl 0 rfl dX7_soonest_37 ?_
      refine zg_X7_12 C hP dX7_soonest_38 ?_
      refine z_vSr C hP (As := []) lk_X7_175 (c_X6_riderInBack hI σ  hse.2) (ob_set (by unfold zSet; omega)) rfl rfl rfl hl.1 rfl (Nat.le_of_ble_eq_true rfl) ⟨Nat.le_of_ble_eq_true rfl, Nat.le_of_ble_eq_true rfl⟩ ⟨Nat.zero_le _, Nat.zero_le _⟩ dX7_soonest_41 ?_
      refine z_vQv hS C hP (As := [.ref (a 32), .ref (a (40 + σ 32 7)), .ref (a (40 + σ 32 8))]) lk_X7_178 (c_X5_seek hI σ (40 + σ 32 7) (40 + σ 32 8) ⟨by omega, by omega⟩ ⟨by omega, by omega⟩ hn hg hrd hho hpz hbf) ob_15 rfl rfl rfl hl.1 rfl (Nat.le_of_ble_eq_true rfl) ⟨Nat.le_of_ble_eq_true rfl, Nat.le_of_ble_eq_true rfl⟩ ⟨Nat.zero_le _, Nat.zero_le _⟩ dX7_soonest_44 (fun t2 H locs hp44 hP hS => ?_)
      refine z_iload_n C hl 1 rfl dX7_soonest_47 ?_
      refine z_if_ne C 61 dX7_soonest_48 (by decide) ⟨by omega, by omega⟩ (fun c_48 => ?_) (fun c_48 => ?_)
      · refine z_aload_n C hl 0 rfl dX7_soonest_61 ?_
        refine zg_X7_48 C hP dX7_soonest_62 ?_
        refine zg_X7_185 C hP dX7_soonest_65 ?_
        exact z_retQi C hP hS hr hlocks rfl (by obtain ⟨q1, q2, qx, ρ, q3, q4, e, b, q5, q6, q7⟩ := hp44; exact ⟨fun h => absurd b_1 h, fun _ h => absurd b_13 h, fun _ _ => ⟨ρ, q3, fun _ => (by first | exact q4 | (exfalso; omega)), fun _ => (by first | (exfalso; omega) | exact ⟨e, b, q5, q6, q7⟩)⟩, q1, q2, qx⟩) dX7_soonest_68
      · refine z_aload_n C hl 0 rfl dX7_soonest_51 ?_
        refine zg_X7_48 C hP dX7_soonest_52 ?_
        refine zg_X7_182 C hP dX7_soonest_55 ?_
        refine z_goto C 68 dX7_soonest_58 (by decide) ?_
        exact z_retQi C hP hS hr hlocks rfl (by obtain ⟨q1, q2, qx, ρ, q3, q4, e, b, q5, q6, q7⟩ := hp44; exact ⟨fun h => absurd b_1 h, fun _ h => absurd b_13 h, fun _ _ => ⟨ρ, q3, fun _ => (by first | exact q4 | (exfalso; omega)), fun _ => (by first | (exfalso; omega) | exact ⟨e, b, q5, q6, q7⟩)⟩, q1, q2, qx⟩) dX7_soonest_68
    · rw [show (if 0 ≤ wh ∧ wh ≤ 1 then (1 : Int) else 0) = 0 from if_neg b_13]
      refine z_ifF_ne C 22 dX7_soonest_16 (by decide) ⟨by decide, by decide⟩ (by decide) ?_
      refine z_bipush C (by decide +kernel) dX7_soonest_19 ?_
      exact z_retQi C hP hS hr hlocks rfl (by exact ⟨fun h => absurd b_1 h, fun _ _ => rfl, fun _ h => absurd h b_13, fun _ _ => rfl, hbf, rfl, rfl⟩) dX7_soonest_21
  · rw [show (if σ (40 + σ 32 7) 0 = 1 ∧ σ (40 + σ 32 8) 0 = 1 then (1 : Int) else 0) = 0 from if_neg b_1]
    refine z_ifF_ne C 10 dX7_soonest_4 (by decide) ⟨by decide, by decide⟩ (by decide) ?_
    refine z_bipush C (by decide +kernel) dX7_soonest_7 ?_
    exact z_retQi C hP hS hr hlocks rfl (by exact ⟨fun _ => rfl, fun h => absurd h b_1, fun h => absurd h b_1, fun _ _ => rfl, hbf, rfl, rfl⟩) dX7_soonest_9
