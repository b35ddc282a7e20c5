def gPT (σ : zS) (p1 p2 e : Int) : Int := mMax7 (fun b => mTread (σ p1 1) (σ p1 2) (e / 5) b + mTread (σ p2 1) (σ p2 2) (e % 5) b)
def kSk (σ ρ : zS) (p1 p2 : Int) : Prop := (∀ c : Int, c < 15 ∨ 22 < c → ρ c = σ c) ∧ ρ 15 13 = p1 ∧ ρ 15 14 = p2 ∧ ∀ e : Int, 0 ≤ e → e < 25 → ρ 16 e = gPT σ p1 p2 e
def kSg (ρ τ : zS) : Prop := τ 15 0 = kB0 ρ ∧ ∃ e b : Int, kFe ρ e ∧ kLb ρ (mHard (ρ 35 0)) (kQ ρ 0 e) e b ∧ τ 15 1 = 100 * (e / 5) + 10 * (e % 5) + b - 4
theorem kHb_c {σ τ ρ : zS} {n : Int} (h : kHb σ ρ n) (e32 : τ 32 = σ 32) (e35 : τ 35 = σ 35) : kHb τ ρ n := by
  unfold kHb
  rw [e32, e35]
  exact h
theorem kHb_d {σ τ ρ : zS} {n : Int} (h : kHb σ ρ n) (e20 : τ 20 = ρ 20) : kHb σ τ n := by
  unfold kHb
  rw [e20]
  exact h
theorem kBf_c {σ τ : zS} (h : kBf σ) (e15 : τ 15 8 = σ 15 8 ∧ τ 15 9 = σ 15 9) (e21 : τ 21 = σ 21) (e22 : τ 22 = σ 22) : kBf τ := by
  unfold kBf jBd
  rw [e15.1, e15.2, e21, e22]
  exact h
theorem kBf_z {σ τ : zS} {p v j : Int} (h : kBf σ) (hp : p = 21 ∨ p = 22) (hv : 0 ≤ v ∧ v ≤ 1000000) (e : τ = zU σ p j v) : kBf τ := by
  refine ⟨?_, kBd_z h.2.1 e hv, kBd_z h.2.2 e hv⟩
  rw [e, zU_cell (by omega)]
  exact h.1
theorem kN_s {ρ τ : zS} {i : Int} {m : Nat} (h13 : 40 ≤ ρ 15 13 ∧ ρ 15 13 ≤ 43) (h14 : 40 ≤ ρ 15 14 ∧ ρ 15 14 ≤ 43) (hk : kSF ρ τ) {υ : zS} : kN ρ υ i m ↔ kN τ υ i m := by
  have e := kSF_k hk h13 h14
  unfold kN
  rw [e.1, e.2.1, e.2.2.2, hk.1 32 (by omega), hk.1 20 (by omega)]
theorem kSF_t {σ τ υ : zS} (h : kSF σ τ) (g : kSF τ υ) : kSF σ υ := ⟨fun c hc => (g.1 c hc).trans (h.1 c hc), fun j h1 h2 h3 => (g.2 j h1 h2 h3).trans (h.2 j h1 h2 h3)⟩
theorem kSF_B {ρ τ : zS} (hk : kSF ρ τ) (h13 : 40 ≤ ρ 15 13 ∧ ρ 15 13 ≤ 43) (h14 : 40 ≤ ρ 15 14 ∧ ρ 15 14 ≤ 43) : kB0 τ = kB0 ρ ∧ kF1 τ = kF1 ρ ∧ kTs τ = kTs ρ ∧ kQ τ = kQ ρ := by
  have e := kSF_k hk h13 h14
  have e32 := hk.1 32 (by omega)
  have e35 := hk.1 35 (by omega)
  refine ⟨?_, ?_, ?_, e.2.2.1⟩
  · unfold kB0 kBk
    rw [e.1, e.2.1, e.2.2.1, e.2.2.2, e32, e35]
  · funext x
    unfold kF1
    rw [e.1, e.2.1, e.2.2.1, e.2.2.2, e32, e35]
  · funext x b
    unfold kTs
    rw [hk.2 13 (by omega) (by omega) (by omega), hk.2 14 (by omega) (by omega) (by omega), hk.1 (ρ 15 13) (by omega), hk.1 (ρ 15 14) (by omega)]
theorem kSg_c {ρ τ υ : zS} (hk : kSF ρ τ) (h13 : 40 ≤ ρ 15 13 ∧ ρ 15 13 ≤ 43) (h14 : 40 ≤ ρ 15 14 ∧ ρ 15 14 ≤ 43) (h : υ 15 0 = kB0 τ ∧ ∃ e b : Int, kFe τ e ∧ kLb τ (mHard (τ 35 0)) (kQ τ 0 e) e b ∧ υ 15 1 = 100 * (e / 5) + 10 * (e % 5) + b - 4) : kSg ρ υ := by
  have e := kSF_B hk h13 h14
  unfold kFe kLb at h
  rw [e.1, e.2.1, e.2.2.1, e.2.2.2, hk.1 35 (by omega)] at h
  exact h
set_option maxRecDepth 20000 in
set_option maxHeartbeats 4000000 in
theorem c_X5_seek {l : Launch} {D : va_G} {Y : Nat → ClassId} {a : Int → Nat} (hI : zI a) (σ : zS) (p1 p2 : Int) (hp1 : 40 ≤ p1 ∧ p1 ≤ 43) (hp2 : 40 ≤ p2 ∧ p2 ≤ 43) (hn : 1 ≤ σ 32 12 ∧ σ 32 12 ≤ 24) (hg : ∀ i : Int, 0 ≤ i → i < 24 → -1 ≤ σ 35 i ∧ σ 35 i ≤ 6) (hrd : ∀ r : Int, 0 ≤ r → r ≤ 3 → (0 ≤ σ (40 + r) 1 ∧ σ (40 + r) 1 ≤ 20) ∧ (0 ≤ σ (40 + r) 2 ∧ σ (40 + r) 2 ≤ 10) ∧ (0 ≤ σ (40 + r) 3 ∧ σ (40 + r) 3 ≤ 9) ∧ (0 ≤ σ (40 + r) 4 ∧ σ (40 + r) 4 ≤ 50)) (hho : 5 ≤ σ 32 9 ∧ σ 32 9 ≤ 20) (hpz : 0 ≤ σ 32 10 ∧ σ 32 10 ≤ 99) (hbf : kBf σ) : zMet l yX5_seek cX5_seek 4 none 4 (zPc D Y a σ [.ref (a 15), .ref (a p1), .ref (a p2)]) (zQv D Y a (fun τ => (∀ c : Int, c < 15 ∨ 22 < c → τ c = σ c) ∧ kBf τ ∧ (τ 15 10 = σ 15 10 ∧ τ 15 11 = σ 15 11) ∧ ∃ ρ : zS, kSk σ ρ p1 p2 ∧ kSg ρ τ)) (inA a) := by
  refine z_start rfl (Nat.le_of_ble_eq_true rfl) hI ?_
  intro p e s m below meth c ls C hr hlocks hl hP
  have hS : va_S (inA a) s.heap s.heap [] := va_S.rf
  have hl : lv_has ls 4 [(0, .ref (a 15)), (1, .ref (a p1)), (2, .ref (a p2))] := hl
  have hq1 := hrd (p1 - 40) (by omega) (by omega)
  rw [show 40 + (p1 - 40) = p1 from (by omega)] at hq1
  have hq2 := hrd (p2 - 40) (by omega) (by omega)
  rw [show 40 + (p2 - 40) = p2 from (by omega)] at hq2
  have hptb : ∀ e : Int, 0 ≤ e → e < 25 → 0 ≤ gPT σ p1 p2 e ∧ gPT σ p1 p2 e ≤ 160 := fun e h1 h2 => mMax7_b (fun b h3 h4 => by have q1 := mTread_b hq1.1 hq1.2.1 (e := e / 5) (b := b) (by omega) (by omega); have q2 := mTread_b hq2.1 hq2.2.1 (e := e % 5) (b := b) (by omega) (by omega); omega)
  have hbv := hbf.1
  skip
  refine z_aload_n C hl 0 rfl dX5_seek_0 ?_
  refine z_aload_n C hl 1 rfl dX5_seek_1 ?_
  refine zp_X5_49 C hP hS dX5_seek_2 (fun H locs hP hS => ?_)
  obtain ⟨t1, et1⟩ : ∃ z : zS, z = zU σ 15 13 p1 := ⟨_, rfl⟩
  rw [← et1] at hP
  refine z_aload_n C hl 0 rfl dX5_seek_5 ?_
  refine z_aload_n C hl 2 rfl dX5_seek_6 ?_
  refine zp_X5_56 C hP hS dX5_seek_7 (fun H locs hP hS => ?_)
  obtain ⟨t2, et2⟩ : ∃ z : zS, z = zU t1 15 14 p2 := ⟨_, rfl⟩
  rw [← et2] at hP
  refine z_iconst C dX5_seek_10 ?_
  refine z_istore_n C [1, 2, 3, 0] [(0, .ref (a 15)), (1, .ref (a p1)), (2, .ref (a p2)), (3, .int (iI 0))] hl (by decide) rfl dX5_seek_11 (fun ls hl => ?_)
  have L_12 : ∀ (n : Nat) (ee : Int) (τ : zS) (H : Heap) (locs : List Loc) (hP : GP D Y a τ H) (hS : va_S (inA a) s.heap H locs) (ls : Array Slot), (0 ≤ ee ∧ ee ≤ 25) → (∀ c : Int, c < 15 ∨ 22 < c → τ c = σ c) → (τ 15 13 = p1 ∧ τ 15 14 = p2) → (kBf τ) → (τ 15 10 = σ 15 10 ∧ τ 15 11 = σ 15 11) → (∀ e : Int, 0 ≤ e → e < ee → τ 16 e = gPT σ p1 p2 e) → ((25 - ee).toNat) < n → lv_has ls 4 [(0, .ref (a 15)), (1, .ref (a p1)), (2, .ref (a p2)), (3, .int (iI ee))] → W p l e (zR 4) s m ([.ref (a 15), .ref (a p1), .ref (a p2)] : List Value).toArray below meth c H locs 0 0 (MQ below (zQv D Y a (fun τ => (∀ c : Int, c < 15 ∨ 22 < c → τ c = σ c) ∧ kBf τ ∧ (τ 15 10 = σ 15 10 ∧ τ 15 11 = σ 15 11) ∧ ∃ ρ : zS, kSk σ ρ p1 p2 ∧ kSg ρ τ)) ([.ref (a 15), .ref (a p1), .ref (a p2)] : List Value).toArray s 0 0 (inA a)) (F0 m 12 ls []) := by
    intro n
    induction n with
    | zero =>
      intros; omega
    | succ n ih_12 =>
      intro ee τ H locs hP hS ls ie fτ kτ bτ xτ dτ hm hl
      refine z_iload_n C hl 3 rfl dX5_seek_12 ?_
      refine z_bipush C (by decide +kernel) dX5_seek_13 ?_
      refine z_icmp_ge C 47 dX5_seek_15 (by decide) ⟨by omega, by omega⟩ ⟨by omega, by omega⟩ (fun c_15 => ?_) (fun c_15 => ?_)
      · refine z_aload_n C hl 0 rfl dX5_seek_47 ?_
        refine z_vQv hS C hP (As := []) lk_X5_63 (c_X5_findHeats hI τ  (by rw [fτ 32 (by omega)]; exact hn) (by rw [fτ 35 (by omega)]; exact hg) (by rw [fτ 32 (by omega)]; exact hho)) ob_15 rfl rfl rfl hl.1 rfl (Nat.le_of_ble_eq_true rfl) ⟨Nat.le_of_ble_eq_true rfl, Nat.le_of_ble_eq_true rfl⟩ ⟨Nat.zero_le _, Nat.zero_le _⟩ dX5_seek_48 (fun t4 H locs hp48 hP hS => ?_)
        have ft4 : ∀ c : Int, c < 15 ∨ 22 < c → t4 c = σ c := fun c hc => by rw [hp48.1 c (by omega), fτ c hc]
        have kt4 : t4 15 13 = p1 ∧ t4 15 14 = p2 := by rw [hp48.1 15 (by omega)]; exact kτ
        have xt4 : t4 15 10 = σ 15 10 ∧ t4 15 11 = σ 15 11 := by rw [hp48.1 15 (by omega)]; exact xτ
        have bt4 : kBf t4 := kBf_c bτ (by rw [hp48.1 15 (by omega)]; exact ⟨rfl, rfl⟩) (hp48.1 21 (by omega)) (hp48.1 22 (by omega))
        have dt4 : ∀ e : Int, 0 ≤ e → e < 25 → t4 16 e = gPT σ p1 p2 e := fun e h1 h2 => by rw [hp48.1 16 (by omega)]; exact dτ e h1 (by omega)
        have ht4 : kHb t4 t4 (σ 32 12) := by have q := hp48.2.1; rw [fτ 32 (by omega)] at q; exact kHb_c q (hp48.1 32 (by omega)) (hp48.1 35 (by omega))
        refine z_iconst C dX5_seek_51 ?_
        refine z_istore_n C [1, 2, 3, 0] [(0, .ref (a 15)), (1, .ref (a p1)), (2, .ref (a p2)), (3, .int (iI 0))] hl (by decide) rfl dX5_seek_52 (fun ls hl => ?_)
        have L_53 : ∀ (n : Nat) (s0 : Int) (τ : zS) (H : Heap) (locs : List Loc) (hP : GP D Y a τ H) (hS : va_S (inA a) s.heap H locs) (ls : Array Slot), (0 ≤ s0 ∧ s0 ≤ 2100) → (∀ c : Int, c < 15 ∨ 22 < c → τ c = σ c) → (τ 15 13 = p1 ∧ τ 15 14 = p2) → (kBf τ) → (τ 15 10 = σ 15 10 ∧ τ 15 11 = σ 15 11) → (∀ e : Int, 0 ≤ e → e < 25 → τ 16 e = gPT σ p1 p2 e) → (kHb τ τ (σ 32 12)) → (∀ j : Int, 0 ≤ j → j < s0 → τ (τ 15 8) j = 0) → ((2100 - s0).toNat) < n → lv_has ls 4 [(0, .ref (a 15)), (1, .ref (a p1)), (2, .ref (a p2)), (3, .int (iI s0))] → W p l e (zR 4) s m ([.ref (a 15), .ref (a p1), .ref (a p2)] : List Value).toArray below meth c H locs 0 0 (MQ below (zQv D Y a (fun τ => (∀ c : Int, c < 15 ∨ 22 < c → τ c = σ c) ∧ kBf τ ∧ (τ 15 10 = σ 15 10 ∧ τ 15 11 = σ 15 11) ∧ ∃ ρ : zS, kSk σ ρ p1 p2 ∧ kSg ρ τ)) ([.ref (a 15), .ref (a p1), .ref (a p2)] : List Value).toArray s 0 0 (inA a)) (F0 m 53 ls []) := by
          intro n
          induction n with
          | zero =>
            intros; omega
          | succ n ih_53 =>
            intro s0 τ H locs hP hS ls is fτ kτ bτ xτ dτ hτ zτ hm hl
            have hbt := bτ.1
            refine z_iload_n C hl 3 rfl dX5_seek_53 ?_
            refine z_aload_n C hl 0 rfl dX5_seek_54 ?_
            refine zg_X5_27 C hP dX5_seek_55 ?_
            refine z_alen C hP (ia_on (by omega)) dX5_seek_58 ?_
            refine z_icmp_ge C 75 dX5_seek_59 (by decide) ⟨by omega, by omega⟩ ⟨by omega, by omega⟩ (fun c_59 => ?_) (fun c_59 => ?_)
            · obtain ⟨ρ, hρ⟩ : ∃ z : zS, z = τ := ⟨_, rfl⟩
              have hr13 : 40 ≤ ρ 15 13 ∧ ρ 15 13 ≤ 43 := by rw [hρ, kτ.1]; exact hp1
              have hr14 : 40 ≤ ρ 15 14 ∧ ρ 15 14 ≤ 43 := by rw [hρ, kτ.2]; exact hp2
              have hsk : kSk σ ρ p1 p2 := by rw [hρ]; exact ⟨fτ, kτ.1, kτ.2, dτ⟩
              refine z_aload_n C hl 0 rfl dX5_seek_75 ?_
              refine zg_X5_39 C hP dX5_seek_76 ?_
              refine zg32_X5_66 C hP dX5_seek_79 ?_
              rw [show τ 32 12 = σ 32 12 from by rw [fτ 32 (by omega)]]
              refine z_iconst C dX5_seek_82 ?_
              refine z_isub C dX5_seek_83 ?_
              refine z_topi (fun x5 hx5 => ?_)
              refine z_istore_n C [1, 2, 3, 0] [(0, .ref (a 15)), (1, .ref (a p1)), (2, .ref (a p2)), (3, .int (iI x5))] hl (by decide) rfl dX5_seek_84 (fun ls hl => ?_)
              have L_85 : ∀ (n : Nat) (k : Int) (τ : zS) (H : Heap) (locs : List Loc) (hP : GP D Y a τ H) (hS : va_S (inA a) s.heap H locs) (ls : Array Slot), (0 ≤ k ∧ k ≤ σ 32 12 - 1) → (∀ c : Int, c < 15 ∨ 22 < c → τ c = σ c) → (τ 15 13 = p1 ∧ τ 15 14 = p2) → (kBf τ) → (τ 15 10 = σ 15 10 ∧ τ 15 11 = σ 15 11) → (∀ e : Int, 0 ≤ e → e < 25 → τ 16 e = gPT σ p1 p2 e) → (kHb τ τ (σ 32 12)) → (kSF ρ τ) → (kN ρ τ (k + 1) (σ 32 12 - 1 - k).toNat) → (k.toNat) < n → lv_has ls 4 [(0, .ref (a 15)), (1, .ref (a p1)), (2, .ref (a p2)), (3, .int (iI k))] → W p l e (zR 4) s m ([.ref (a 15), .ref (a p1), .ref (a p2)] : List Value).toArray below meth c H locs 0 0 (MQ below (zQv D Y a (fun τ => (∀ c : Int, c < 15 ∨ 22 < c → τ c = σ c) ∧ kBf τ ∧ (τ 15 10 = σ 15 10 ∧ τ 15 11 = σ 15 11) ∧ ∃ ρ : zS, kSk σ ρ p1 p2 ∧ kSg ρ τ)) ([.ref (a 15), .ref (a p1), .ref (a p2)] : List Value).toArray s 0 0 (inA a)) (F0 m 85 ls []) := by
                intro n
                induction n with
                | zero =>
                  intros; omega
                | succ n ih_85 =>
                  intro k τ H locs hP hS ls ik fτ kτ bτ xτ dτ hτ sτ nτ hm hl
                  have hbt := bτ.1
                  refine z_iload_n C hl 3 rfl dX5_seek_85 ?_
                  refine z_iconst C dX5_seek_86 ?_
                  refine z_icmp_lt C 101 dX5_seek_87 (by decide) ⟨by omega, by omega⟩ ⟨by omega, by omega⟩ (fun c_87 => ?_) (fun c_87 => ?_)
                  · refine z_aload_n C hl 0 rfl dX5_seek_101 ?_
                    refine z_vQv hS C hP (As := []) lk_X5_74 (c_X5_chooseFirst hI τ  (by rw [fτ 32 (by omega)]; exact hn) (by rw [fτ 35 (by omega)]; exact hg) (by rw [fτ 32 (by omega)]; exact hho) (by rw [fτ 32 (by omega)]; exact hpz) (by rw [kτ.1]; exact hp1) (by rw [kτ.2]; exact hp2) (by rw [kτ.1, fτ p1 (by omega)]; exact hq1.2.2.1) (by rw [kτ.2, fτ p2 (by omega)]; exact hq2.2.2.1) bτ.1 (fun e h1 h2 => by rw [dτ e h1 h2]; exact hptb e h1 h2) bτ.2.1 bτ.2.2 (by rw [fτ 32 (by omega)]; exact hτ) (by rw [kτ.1, fτ p1 (by omega)]; exact ⟨hq1.1, hq1.2.1⟩) (by rw [kτ.2, fτ p2 (by omega)]; exact ⟨hq2.1, hq2.2.1⟩) (by have q := nτ; rw [show k + 1 = (1 : Int) from (by omega)] at q; rw [fτ 32 (by omega), show (σ 32 12 - 1).toNat = (σ 32 12 - 1 - k).toNat from (by omega)]; exact (kN_s hr13 hr14 sτ).1 q)) ob_15 rfl rfl rfl hl.1 rfl (Nat.le_of_ble_eq_true rfl) ⟨Nat.le_of_ble_eq_true rfl, Nat.le_of_ble_eq_true rfl⟩ ⟨Nat.zero_le _, Nat.zero_le _⟩ dX5_seek_102 (fun t7 H locs hp102 hP hS => ?_)
                    exact z_retQv C hP hS hr hlocks (by exact ⟨fun c hc => (by rw [hp102.1.1 c (by omega)]; exact fτ c hc), kBf_c bτ ⟨hp102.1.2 8 (by omega) (by omega), hp102.1.2 9 (by omega) (by omega)⟩ (hp102.1.1 21 (by omega)) (hp102.1.1 22 (by omega)), ⟨(hp102.1.2 10 (by omega) (by omega)).trans xτ.1, (hp102.1.2 11 (by omega) (by omega)).trans xτ.2⟩, ρ, hsk, kSg_c sτ hr13 hr14 hp102.2⟩) dX5_seek_105
                  · refine z_aload_n C hl 0 rfl dX5_seek_90 ?_
                    refine z_iload_n C hl 3 rfl dX5_seek_91 ?_
                    refine z_vQv hS C hP (As := [.int (iI k)]) lk_X5_70 (c_X5_stepAhead hI τ k (by rw [fτ 32 (by omega)]; exact hn) (by rw [fτ 35 (by omega)]; exact hg) (by rw [fτ 32 (by omega)]; exact hho) (by rw [fτ 32 (by omega)]; exact hpz) (by rw [kτ.1]; exact hp1) (by rw [kτ.2]; exact hp2) (by rw [kτ.1, fτ p1 (by omega)]; exact hq1.2.2.1) (by rw [kτ.2, fτ p2 (by omega)]; exact hq2.2.2.1) bτ.1 (fun e h1 h2 => by rw [dτ e h1 h2]; exact hptb e h1 h2) bτ.2.1 bτ.2.2 (by rw [fτ 32 (by omega)]; exact hτ) (by rw [fτ 32 (by omega)]; omega) (by rw [fτ 32 (by omega)]; exact (kN_s hr13 hr14 sτ).1 nτ)) ob_15 rfl rfl rfl hl.1 rfl (Nat.le_of_ble_eq_true rfl) ⟨Nat.le_of_ble_eq_true rfl, Nat.le_of_ble_eq_true rfl⟩ ⟨Nat.zero_le _, Nat.zero_le _⟩ dX5_seek_92 (fun t9 H locs hp92 hP hS => ?_)
                    have st9 : kSF ρ t9 := kSF_t sτ hp92.1
                    have ft9 : ∀ c : Int, c < 15 ∨ 22 < c → t9 c = σ c := fun c hc => by rw [hp92.1.1 c (by omega), fτ c hc]
                    have kt9 : t9 15 13 = p1 ∧ t9 15 14 = p2 := by rw [hp92.1.2 13 (by omega) (by omega) (by omega), hp92.1.2 14 (by omega) (by omega) (by omega)]; exact kτ
                    have xt9 : t9 15 10 = σ 15 10 ∧ t9 15 11 = σ 15 11 := by rw [hp92.1.2 10 (by omega) (by omega) (by omega), hp92.1.2 11 (by omega) (by omega) (by omega)]; exact xτ
                    have dt9 : ∀ e : Int, 0 ≤ e → e < 25 → t9 16 e = gPT σ p1 p2 e := fun e h1 h2 => by rw [hp92.1.1 16 (by omega)]; exact dτ e h1 h2
                    have ht9 : kHb t9 t9 (σ 32 12) := kHb_d (kHb_c hτ (hp92.1.1 32 (by omega)) (hp92.1.1 35 (by omega))) (hp92.1.1 20 (by omega))
                    refine z_iinc C 3 [1, 2, 3, 0] [(0, .ref (a 15)), (1, .ref (a p1)), (2, .ref (a p2)), (3, .int (iI (k + (-1))))] hl rfl (by decide) rfl dX5_seek_95 (fun ls hl => ?_)
                    refine z_goto C 85 dX5_seek_98 (by decide) ?_
                    exact ih_85 (k + (-1)) t9 H locs hP hS ls (by omega) (by exact ft9) (by exact kt9) (by exact hp92.2.1) (by exact xt9) (by exact dt9) (by exact ht9) (by exact st9) (by have q := (kN_s hr13 hr14 sτ).2 hp92.2.2; rw [fτ 32 (by omega), show (σ 32 12 - k).toNat = (σ 32 12 - 1 - (k + (-1))).toNat from (by omega)] at q; rw [show k + (-1) + 1 = k from (by omega)]; exact q) (by omega) (lv_sub hl [0, 1, 2, 3] rfl)
              exact L_85 _ x5 τ _ _ hP hS ls (by omega) (by exact fτ) (by exact kτ) (by exact bτ) (by exact xτ) (by exact dτ) (by exact hτ) (by rw [hρ]; exact ⟨fun _ _ => rfl, fun _ _ _ _ => rfl⟩) (by intro x y h h1 h2 h3 h4; rw [show (σ 32 12 - 1 - x5).toNat = 0 from (by omega)]; unfold kW1 at h1; unfold kW2 at h2; rw [hρ, kτ.1, fτ p1 (by omega)] at h1; rw [hρ, kτ.2, fτ p2 (by omega)] at h2; rw [hρ, fτ 32 (by omega)] at h3; exact zτ _ (by unfold mCell; omega) (by unfold mCell; omega)) (Nat.lt_succ_self _) (lv_sub hl [0, 1, 2, 3] rfl)
            · have hbt := bτ.1
              refine z_aload_n C hl 0 rfl dX5_seek_62 ?_
              refine zg_X5_27 C hP dX5_seek_63 ?_
              refine z_iload_n C hl 3 rfl dX5_seek_66 ?_
              refine z_iconst C dX5_seek_67 ?_
              refine z_iast C hP hS (ia_on (by omega)) ⟨by omega, by omega⟩ dX5_seek_68 (fun H locs hP hS => ?_)
              obtain ⟨t10, et10⟩ : ∃ z : zS, z = zU τ (τ 15 8) s0 0 := ⟨_, rfl⟩
              rw [← et10] at hP
              refine z_iinc C 3 [1, 2, 3, 0] [(0, .ref (a 15)), (1, .ref (a p1)), (2, .ref (a p2)), (3, .int (iI (s0 + 1)))] hl rfl (by decide) rfl dX5_seek_69 (fun ls hl => ?_)
              refine z_goto C 53 dX5_seek_72 (by decide) ?_
              exact ih_53 (s0 + 1) t10 H locs hP hS ls (by omega) (by intro c hc; rw [et10, zU_cell (by omega)]; exact fτ c hc) (by rw [et10, zU_cell (by omega)]; exact kτ) (by exact kBf_z bτ (by omega) (by decide) et10) (by rw [et10, zU_cell (by omega)]; exact xτ) (by intro e h1 h2; rw [et10, zU_cell (by omega)]; exact dτ e h1 h2) (by exact kHb_d (kHb_c hτ (by rw [et10, zU_cell (by omega)]) (by rw [et10, zU_cell (by omega)])) (by rw [et10, zU_cell (by omega)])) (by intro j h1 h2; have e8 : t10 15 8 = τ 15 8 := (by rw [et10, zU_cell (by omega)]); rw [e8]; exact if hj : j = s0 then (by rw [hj, et10, zU_same]) else (by rw [et10, zU_place hj]; exact zτ j h1 (by omega))) (by omega) (lv_sub hl [0, 1, 2, 3] rfl)
        exact L_53 _ 0 t4 _ _ hP hS ls (by omega) (by exact ft4) (by exact kt4) (by exact bt4) (by exact xt4) (by exact dt4) (by exact ht4) (by intro j h1 h2; omega) (Nat.lt_succ_self _) (lv_sub hl [0, 1, 2, 3] rfl)
      · refine z_aload_n C hl 0 rfl dX5_seek_18 ?_
        refine zg_X5_9 C hP dX5_seek_19 ?_
        refine z_iload_n C hl 3 rfl dX5_seek_22 ?_
        refine z_aload_n C hl 0 rfl dX5_seek_23 ?_
        refine zg_X5_49 C hP dX5_seek_24 ?_
        rw [show τ 15 13 = p1 from by rw [kτ.1]]
        refine z_iload_n C hl 3 rfl dX5_seek_27 ?_
        refine z_iconst C dX5_seek_28 ?_
        refine z_idiv C ⟨by omega, by omega, by omega, by omega⟩ dX5_seek_29 ?_
        refine z_aload_n C hl 0 rfl dX5_seek_30 ?_
        refine zg_X5_56 C hP dX5_seek_31 ?_
        rw [show τ 15 14 = p2 from by rw [kτ.2]]
        refine z_iload_n C hl 3 rfl dX5_seek_34 ?_
        refine z_iconst C dX5_seek_35 ?_
        refine z_irem C ⟨by omega, by omega, by omega, by omega⟩ dX5_seek_36 ?_
        refine z_nSi C hP (As := [.ref (a p1), .int (iI (ee / 5)), .ref (a p2), .int (iI (ee % 5))]) lk_X5_59 (c_X7_mostTreads hI τ p1 (ee / 5) p2 (ee % 5) (by unfold zRid; omega) (by rw [fτ p1 (by omega)]; exact hq1.1) (by rw [fτ p1 (by omega)]; exact hq1.2.1) ⟨by omega, by omega⟩ (by unfold zRid; omega) (by rw [fτ p2 (by omega)]; exact hq2.1) (by rw [fτ p2 (by omega)]; exact hq2.2.1) ⟨by omega, by omega⟩) rfl hl.1 rfl (Nat.le_of_ble_eq_true rfl) ⟨Nat.le_of_ble_eq_true rfl, Nat.le_of_ble_eq_true rfl⟩ ⟨Nat.zero_le _, Nat.zero_le _⟩ dX5_seek_37 ?_
        rw [fτ p1 (by omega), fτ p2 (by omega)]
        rw [show mMax7 (fun b => mTread (σ p1 1) (σ p1 2) (ee / 5) b + mTread (σ p2 1) (σ p2 2) (ee % 5) b) = gPT σ p1 p2 ee from rfl]
        refine z_iast C hP hS ia_16 ⟨by omega, by omega⟩ dX5_seek_40 (fun H locs hP hS => ?_)
        obtain ⟨t11, et11⟩ : ∃ z : zS, z = zU τ 16 ee (gPT σ p1 p2 ee) := ⟨_, rfl⟩
        rw [← et11] at hP
        refine z_iinc C 3 [1, 2, 3, 0] [(0, .ref (a 15)), (1, .ref (a p1)), (2, .ref (a p2)), (3, .int (iI (ee + 1)))] hl rfl (by decide) rfl dX5_seek_41 (fun ls hl => ?_)
        refine z_goto C 12 dX5_seek_44 (by decide) ?_
        exact ih_12 (ee + 1) t11 H locs hP hS ls (by omega) (by intro c hc; rw [et11, zU_cell (by omega)]; exact fτ c hc) (by rw [et11, zU_cell (by decide)]; exact kτ) (by exact kBf_c bτ (by rw [et11, zU_cell (by decide)]; exact ⟨rfl, rfl⟩) (by rw [et11, zU_cell (by decide)]) (by rw [et11, zU_cell (by decide)])) (by rw [et11, zU_cell (by decide)]; exact xτ) (by intro e h1 h2; exact if he : e = ee then (by rw [he, et11, zU_same]) else (by rw [et11, zU_place he]; exact dτ e h1 (by omega))) (by omega) (lv_sub hl [0, 1, 2, 3] rfl)
  exact L_12 _ 0 t2 _ _ hP hS ls (by omega) (by intro c hc; rw [et2, et1, zU_cell (by omega), zU_cell (by omega)]) (by rw [et2, et1, zU_same, zU_place (by decide), zU_same]; exact ⟨rfl, rfl⟩) (by exact kBf_c hbf (by rw [et2, et1, zU_place (by decide), zU_place (by decide), zU_place (by decide), zU_place (by decide)]; exact ⟨rfl, rfl⟩) (by rw [et2, et1, zU_cell (by decide), zU_cell (by decide)]) (by rw [et2, et1, zU_cell (by decide), zU_cell (by decide)])) (by rw [et2, et1, zU_place (by decide), zU_place (by decide), zU_place (by decide), zU_place (by decide)]; exact ⟨rfl, rfl⟩) (by intro e h1 h2; omega) (Nat.lt_succ_self _) (lv_sub hl [0, 1, 2, 3] rfl)

set_option maxRecDepth 20000 in
set_option maxHeartbeats 4000000 in
theorem c_X7_soonest {l : Launch} {D : va_G} {Y : Nat → ClassId} {a : Int → Nat} (hI : zI a) (σ : zS) (wh : Int) (r1 : R3 wh) (hth : ∀ r : Int, 0 ≤ r → r ≤ 3 → σ (40 + r) 0 = 0 ∨ σ (40 + r) 0 = 1) (hse : (0 ≤ σ 32 7 ∧ σ 32 7 ≤ 3) ∧ (0 ≤ σ 32 8 ∧ σ 32 8 ≤ 3)) (hrd : ∀ r : Int, 0 ≤ r → r ≤ 3 → (0 ≤ σ (40 + r) 1 ∧ σ (40 + r) 1 ≤ 20) ∧ (0 ≤ σ (40 + r) 2 ∧ σ (40 + r) 2 ≤ 10) ∧ (0 ≤ σ (40 + r) 3 ∧ σ (40 + r) 3 ≤ 9) ∧ (0 ≤ σ (40 + r) 4 ∧ σ (40 + r) 4 ≤ 50)) (hn : 1 ≤ σ 32 12 ∧ σ 32 12 ≤ 24) (hg : ∀ i : Int, 0 ≤ i → i < 24 → -1 ≤ σ 35 i ∧ σ 35 i ≤ 6) (hho : 5 ≤ σ 32 9 ∧ σ 32 9 ≤ 20) (hpz : 0 ≤ σ 32 10 ∧ σ 32 10 ≤ 99) (hbf : kBf σ) : zMet l yX7_soonest cX7_soonest 2 (some .int) 5 (zPc D Y a σ [.ref (a 0), .int (iI wh)]) (zQi D Y a (fun r τ => (¬ (σ (40 + σ 32 7) 0 = 1 ∧ σ (40 + σ 32 8) 0 = 1) → r = -3) ∧ (σ (40 + σ 32 7) 0 = 1 ∧ σ (40 + σ 32 8) 0 = 1 → ¬ (0 ≤ wh ∧ wh ≤ 1) → r = -2) ∧ (σ (40 + σ 32 7) 0 = 1 ∧ σ (40 + σ 32 8) 0 = 1 → 0 ≤ wh ∧ wh ≤ 1 → ∃ ρ : zS, kSk σ ρ (40 + σ 32 7) (40 + σ 32 8) ∧ (wh = 0 → r = kB0 ρ) ∧ (wh = 1 → ∃ e b : Int, kFe ρ e ∧ kLb ρ (mHard (ρ 35 0)) (kQ ρ 0 e) e b ∧ r = 100 * (e / 5) + 10 * (e % 5) + b - 4)) ∧ (∀ c : Int, c < 15 ∨ 22 < c → τ c = σ c) ∧ kBf τ ∧ τ 15 10 = σ 15 10 ∧ τ 15 11 = σ 15 11)) (inA a) := by
  refine z_start rfl (Nat.le_of_ble_eq_true rfl) hI ?_
  intro p e s m below meth c ls C hr hlocks hl hP
  have hS : va_S (inA a) s.heap s.heap [] := va_S.rf
  have hl : lv_has ls 2 [(0, .ref (a 0)), (1, .int (iI wh))] := hl
  skip
  refine z_aload_n C hl 0 rfl dX7_soonest_0 ?_
  refine z_vSi C hP (As := []) lk_X7_124 (c_X7_areSeated hI σ  hth hse) ob_0 rfl rfl rfl hl.1 rfl (Nat.le_of_ble_eq_true rfl) ⟨Nat.le_of_ble_eq_true rfl, Nat.le_of_ble_eq_true rfl⟩ ⟨Nat.zero_le _, Nat.zero_le _⟩ dX7_soonest_1 ?_
  by_cases b_1 : σ (40 + σ 32 7) 0 = 1 ∧ σ (40 + σ 32 8) 0 = 1
  · rw [show (if σ (40 + σ 32 7) 0 = 1 ∧ σ (40 + σ 32 8) 0 = 1 then (1 : Int) else 0) = 1 from if_pos b_1]
    refine z_ifT_ne C 10 dX7_soonest_4 (by decide) ⟨by decide, by decide⟩ (by decide) ?_
    refine z_iload_n C hl 1 rfl dX7_soonest_10 ?_
    refine z_iconst C dX7_soonest_11 ?_
    refine z_iconst C dX7_soonest_12 ?_
    refine z_sSi C hP (As := [.int (iI wh), .int (iI 0), .int (iI 1)]) lk_X7_54 (c_X7_isWithin hI σ wh 0 1 r1 ⟨by decide, by decide⟩ ⟨by decide, by decide⟩) rfl hl.1 rfl (Nat.le_of_ble_eq_true rfl) ⟨Nat.le_of_ble_eq_true rfl, Nat.le_of_ble_eq_true rfl⟩ ⟨Nat.zero_le _, Nat.zero_le _⟩ dX7_soonest_13 ?_
    by_cases b_13 : 0 ≤ wh ∧ wh ≤ 1
    · rw [show (if 0 ≤ wh ∧ wh ≤ 1 then (1 : Int) else 0) = 1 from if_pos b_13]
      refine z_ifT_ne C 22 dX7_soonest_16 (by decide) ⟨by decide, by decide⟩ (by decide) ?_
      refine z_aload_n C hl 0 rfl dX7_soonest_22 ?_
      refine zg_X7_50 C hP dX7_soonest_23 ?_
      refine z_aload_n C hl 0 rfl dX7_soonest_26 ?_
      refine zg_X7_12 C hP dX7_soonest_27 ?_
      refine z_vSr C hP (As := []) lk_X7_173 (c_X6_riderInFront hI σ  hse.1) (ob_set (by unfold zSet; omega)) rfl rfl rfl hl.1 rfl (Nat.le_of_ble_eq_true rfl) ⟨Nat.le_of_ble_eq_true rfl, Nat.le_of_ble_eq_true rfl⟩ ⟨Nat.zero_le _, Nat.zero_le _⟩ dX7_soonest_30 ?_
      refine z_aload_n C hl 0 rfl dX7_soonest_33 ?_
      refine zg_X7_12 C hP dX7_soonest_34 ?_
      refine z_vSr C hP (As := []) lk_X7_177 (c_X6_riderInBack hI σ  hse.2) (ob_set (by unfold zSet; omega)) rfl rfl rfl hl.1 rfl (Nat.le_of_ble_eq_true rfl) ⟨Nat.le_of_ble_eq_true rfl, Nat.le_of_ble_eq_true rfl⟩ ⟨Nat.zero_le _, Nat.zero_le _⟩ dX7_soonest_37 ?_
      refine z_vQv hS C hP (As := [.ref (a (40 + σ 32 7)), .ref (a (40 + σ 32 8))]) lk_X7_180 (c_X5_seek hI σ (40 + σ 32 7) (40 + σ 32 8) ⟨by omega, by omega⟩ ⟨by omega, by omega⟩ hn hg hrd hho hpz hbf) ob_15 rfl rfl rfl hl.1 rfl (Nat.le_of_ble_eq_true rfl) ⟨Nat.le_of_ble_eq_true rfl, Nat.le_of_ble_eq_true rfl⟩ ⟨Nat.zero_le _, Nat.zero_le _⟩ dX7_soonest_40 (fun t2 H locs hp40 hP hS => ?_)
      refine z_iload_n C hl 1 rfl dX7_soonest_43 ?_
      refine z_if_ne C 57 dX7_soonest_44 (by decide) ⟨by omega, by omega⟩ (fun c_44 => ?_) (fun c_44 => ?_)
      · refine z_aload_n C hl 0 rfl dX7_soonest_57 ?_
        refine zg_X7_50 C hP dX7_soonest_58 ?_
        refine zg_X7_187 C hP dX7_soonest_61 ?_
        exact z_retQi C hP hS hr hlocks rfl (by obtain ⟨q1, q2, qx, ρ, q3, q4, e, b, q5, q6, q7⟩ := hp40; exact ⟨fun h => absurd b_1 h, fun _ h => absurd b_13 h, fun _ _ => ⟨ρ, q3, fun _ => (by first | exact q4 | (exfalso; omega)), fun _ => (by first | (exfalso; omega) | exact ⟨e, b, q5, q6, q7⟩)⟩, q1, q2, qx⟩) dX7_soonest_64
      · refine z_aload_n C hl 0 rfl dX7_soonest_47 ?_
        refine zg_X7_50 C hP dX7_soonest_48 ?_
        refine zg_X7_184 C hP dX7_soonest_51 ?_
        refine z_goto C 64 dX7_soonest_54 (by decide) ?_
        exact z_retQi C hP hS hr hlocks rfl (by obtain ⟨q1, q2, qx, ρ, q3, q4, e, b, q5, q6, q7⟩ := hp40; exact ⟨fun h => absurd b_1 h, fun _ h => absurd b_13 h, fun _ _ => ⟨ρ, q3, fun _ => (by first | exact q4 | (exfalso; omega)), fun _ => (by first | (exfalso; omega) | exact ⟨e, b, q5, q6, q7⟩)⟩, q1, q2, qx⟩) dX7_soonest_64
    · rw [show (if 0 ≤ wh ∧ wh ≤ 1 then (1 : Int) else 0) = 0 from if_neg b_13]
      refine z_ifF_ne C 22 dX7_soonest_16 (by decide) ⟨by decide, by decide⟩ (by decide) ?_
      refine z_bipush C (by decide +kernel) dX7_soonest_19 ?_
      exact z_retQi C hP hS hr hlocks rfl (by exact ⟨fun h => absurd b_1 h, fun _ _ => rfl, fun _ h => absurd h b_13, fun _ _ => rfl, hbf, rfl, rfl⟩) dX7_soonest_21
  · rw [show (if σ (40 + σ 32 7) 0 = 1 ∧ σ (40 + σ 32 8) 0 = 1 then (1 : Int) else 0) = 0 from if_neg b_1]
    refine z_ifF_ne C 10 dX7_soonest_4 (by decide) ⟨by decide, by decide⟩ (by decide) ?_
    refine z_bipush C (by decide +kernel) dX7_soonest_7 ?_
    exact z_retQi C hP hS hr hlocks rfl (by exact ⟨fun _ => rfl, fun h => absurd h b_1, fun h => absurd h b_1, fun _ _ => rfl, hbf, rfl, rfl⟩) dX7_soonest_9
