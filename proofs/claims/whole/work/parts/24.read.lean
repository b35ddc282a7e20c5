def mSg (σ : zS) (q : Int) : Int := if 0 ≤ q ∧ q < σ 3 1 then σ 4 q else 0
def mPl (g : Int → Int) : Nat → Int
  | 0 => 0
  | n + 1 => mPl g n + (if g (mPl g n) = 82 then 1 else 0) + 3
def mRst (g : Int → Int) (i : Int) : Int := if g (mPl g i.toNat) = 82 then 1 else 0
def mQ (g : Int → Int) (i : Int) : Int := mPl g i.toNat + mRst g i
def mEF (g : Int → Int) (i : Int) : Int := g (mQ g i) - 48
def mEB (g : Int → Int) (i : Int) : Int := g (mQ g i + 1) - 48
def mBt (g : Int → Int) (i : Int) : Int := g (mQ g i + 2) - 93
def mRd (g : Int → Int) (n len : Int) : Nat → Int → Int
  | 0, _ => if mPl g n.toNat < len then mPl g n.toNat else -6
  | k + 1, i => if 0 ≤ mEF g i ∧ mEF g i ≤ 4 then (if 0 ≤ mEB g i ∧ mEB g i ≤ 4 then (if 4 ≤ mBt g i ∧ mBt g i ≤ 10 then mRd g n len k (i + 1) else mQ g i + 2) else mQ g i + 1) else mQ g i
theorem mRd_s (g : Int → Int) (n len : Int) {i : Int} (h : 0 ≤ i ∧ i < n) : mRd g n len (n - i).toNat i = if 0 ≤ mEF g i ∧ mEF g i ≤ 4 then (if 0 ≤ mEB g i ∧ mEB g i ≤ 4 then (if 4 ≤ mBt g i ∧ mBt g i ≤ 10 then mRd g n len (n - (i + 1)).toNat (i + 1) else mQ g i + 2) else mQ g i + 1) else mQ g i := by
  have e : (n - i).toNat = (n - (i + 1)).toNat + 1 := by omega
  rw [e]
  rfl
theorem mRst_or (g : Int → Int) (i : Int) : (g (mPl g i.toNat) = 82 ∧ mRst g i = 1) ∨ (g (mPl g i.toNat) ≠ 82 ∧ mRst g i = 0) := by
  unfold mRst
  split
  · exact Or.inl ⟨by assumption, rfl⟩
  · exact Or.inr ⟨by assumption, rfl⟩
theorem mPl_s (g : Int → Int) {i : Int} (h : 0 ≤ i) : mPl g (i + 1).toNat = mQ g i + 3 := by
  have e : (i + 1).toNat = i.toNat + 1 := by omega
  rw [e]
  rfl
theorem mSg_b {σ : zS} (hq : ∀ i : Int, 0 ≤ i → i < 110 → 0 ≤ σ 4 i ∧ σ 4 i ≤ 126) (hp : 0 ≤ σ 3 1 ∧ σ 3 1 ≤ 110) (q : Int) : 0 ≤ mSg σ q ∧ mSg σ q ≤ 126 := by
  unfold mSg
  split
  · exact hq q (by omega) (by omega)
  · omega

set_option maxRecDepth 20000 in
set_option maxHeartbeats 4000000 in
theorem c_X2_read {l : Launch} {D : va_G} {Y : Nat → ClassId} {a : Int → Nat} (hI : zI a) (σ : zS) (n0 : Int) (hn0 : 1 ≤ n0 ∧ n0 ≤ 24) (hp : 0 ≤ σ 3 1 ∧ σ 3 1 ≤ 110) (hq : ∀ i : Int, 0 ≤ i → i < 110 → 0 ≤ σ 4 i ∧ σ 4 i ≤ 126) : zMet l yX2_read cX2_read 5 (some .int) 2 (zPc D Y a σ [.ref (a 5), .ref (a 3), .int (iI n0)]) (zQi D Y a (fun r τ => r = mRd (mSg σ) n0 (σ 3 1) n0.toNat 0 ∧ (∀ k : Int, k < 6 ∨ 9 < k → τ k = σ k) ∧ (r = -6 → ∀ i : Int, 0 ≤ i → i < n0 → τ 6 i = mRst (mSg σ) i ∧ τ 7 i = mEF (mSg σ) i ∧ τ 8 i = mEB (mSg σ) i ∧ τ 9 i = mBt (mSg σ) i))) (inA a) := by
  refine z_start rfl (Nat.le_of_ble_eq_true rfl) hI ?_
  intro p e s m below meth c ls C hr hlocks hl hP
  have hS : va_S (inA a) s.heap s.heap [] := va_S.rf
  have hl : lv_has ls 5 [(0, .ref (a 5)), (1, .ref (a 3)), (2, .int (iI n0))] := hl
  skip
  refine z_iconst C dX2_read_0 ?_
  refine z_istore_n C [1, 2, 3, 0] [(0, .ref (a 5)), (1, .ref (a 3)), (2, .int (iI n0)), (3, .int (iI 0))] hl (by decide) rfl dX2_read_1 (fun ls hl => ?_)
  refine z_iconst C dX2_read_2 ?_
  refine z_istore C [1, 2, 3, 4, 0] [(0, .ref (a 5)), (1, .ref (a 3)), (2, .int (iI n0)), (3, .int (iI 0)), (4, .int (iI 0))] hl (by decide) rfl dX2_read_3 (fun ls hl => ?_)
  have L_5 : ∀ (n : Nat) (pl : Int) (i : Int) (τ : zS) (H : Heap) (locs : List Loc) (hP : GP D Y a τ H) (hS : va_S (inA a) s.heap H locs) (ls : Array Slot), (0 ≤ i ∧ i ≤ n0) → (pl = mPl (mSg σ) i.toNat) → (0 ≤ pl ∧ pl ≤ 4 * i) → (∀ k : Int, k < 6 ∨ 9 < k → τ k = σ k) → (∀ j : Int, 0 ≤ j → j < i → τ 6 j = mRst (mSg σ) j ∧ τ 7 j = mEF (mSg σ) j ∧ τ 8 j = mEB (mSg σ) j ∧ τ 9 j = mBt (mSg σ) j) → (mRd (mSg σ) n0 (σ 3 1) n0.toNat 0 = mRd (mSg σ) n0 (σ 3 1) (n0 - i).toNat i) → ((n0 - i).toNat) < n → lv_has ls 5 [(0, .ref (a 5)), (1, .ref (a 3)), (2, .int (iI n0)), (3, .int (iI pl)), (4, .int (iI i))] → W p l e (zR 2) s m ([.ref (a 5), .ref (a 3), .int (iI n0)] : List Value).toArray below meth c H locs 0 0 (MQ below (zQi D Y a (fun r τ => r = mRd (mSg σ) n0 (σ 3 1) n0.toNat 0 ∧ (∀ k : Int, k < 6 ∨ 9 < k → τ k = σ k) ∧ (r = -6 → ∀ i : Int, 0 ≤ i → i < n0 → τ 6 i = mRst (mSg σ) i ∧ τ 7 i = mEF (mSg σ) i ∧ τ 8 i = mEB (mSg σ) i ∧ τ 9 i = mBt (mSg σ) i))) ([.ref (a 5), .ref (a 3), .int (iI n0)] : List Value).toArray s 0 0 (inA a)) (F0 m 5 ls []) := by
    intro n
    induction n with
    | zero =>
      intros; omega
    | succ n ih_5 =>
      intro pl i τ H locs hP hS ls ii ip iq iF iD iv hm hl
      have hrs := mRst_or (mSg σ) i
      rw [← ip] at hrs
      have hQ : mQ (mSg σ) i = pl + mRst (mSg σ) i := by unfold mQ; rw [← ip]
      have hb0 := mSg_b hq hp pl
      have hb1 := mSg_b hq hp (mQ (mSg σ) i)
      have hb2 := mSg_b hq hp (mQ (mSg σ) i + 1)
      have hb3 := mSg_b hq hp (mQ (mSg σ) i + 2)
      refine z_iload C hl 4 rfl dX2_read_5 ?_
      refine z_iload_n C hl 2 rfl dX2_read_7 ?_
      refine z_icmp_ge C 156 dX2_read_8 (by decide) ⟨by omega, by omega⟩ ⟨by omega, by omega⟩ (fun c_8 => ?_) (fun c_8 => ?_)
      · refine z_iload_n C hl 3 rfl dX2_read_156 ?_
        refine z_aload_n C hl 1 rfl dX2_read_157 ?_
        refine zg_X2_39 C hP dX2_read_158 ?_
        rw [show τ 3 1 = σ 3 1 from by rw [iF 3 (by omega)]]
        refine z_icmp_ge C 168 dX2_read_161 (by decide) ⟨by omega, by omega⟩ ⟨by omega, by omega⟩ (fun c_161 => ?_) (fun c_161 => ?_)
        · refine z_bipush C (by decide +kernel) dX2_read_168 ?_
          exact z_retQi C hP hS hr hlocks rfl (by exact ⟨(by rw [iv, show (n0 - i).toNat = 0 from (by omega)]; unfold mRd; rw [show n0 = i from (by omega), ← ip]; first | (rw [if_pos (by omega)]; done) | (rw [if_neg (by omega)]; done)), fun k hk => (by rw [iF k (by omega)]), fun h => (by first | (exfalso; omega) | (rw [show n0 = i from (by omega)]; exact iD))⟩) dX2_read_170
        · refine z_iload_n C hl 3 rfl dX2_read_164 ?_
          refine z_goto C 170 dX2_read_165 (by decide) ?_
          exact z_retQi C hP hS hr hlocks rfl (by exact ⟨(by rw [iv, show (n0 - i).toNat = 0 from (by omega)]; unfold mRd; rw [show n0 = i from (by omega), ← ip]; first | (rw [if_pos (by omega)]; done) | (rw [if_neg (by omega)]; done)), fun k hk => (by rw [iF k (by omega)]), fun h => (by first | (exfalso; omega) | (rw [show n0 = i from (by omega)]; exact iD))⟩) dX2_read_170
      · refine z_aload_n C hl 0 rfl dX2_read_11 ?_
        refine zg_X2_9 C hP dX2_read_12 ?_
        refine z_iload C hl 4 rfl dX2_read_15 ?_
        refine z_aload_n C hl 1 rfl dX2_read_17 ?_
        refine z_iload_n C hl 3 rfl dX2_read_18 ?_
        refine z_vSi C hP (As := [.int (iI pl)]) lk_X2_25 (c_X1_signAt hI τ pl (by rw [show τ 3 = σ 3 from (by rw [iF 3 (by omega)])]; exact hp) (by omega)) ob_3 rfl rfl rfl hl.1 rfl (Nat.le_of_ble_eq_true rfl) ⟨Nat.le_of_ble_eq_true rfl, Nat.le_of_ble_eq_true rfl⟩ ⟨Nat.zero_le _, Nat.zero_le _⟩ dX2_read_19 ?_
        rw [show τ 3 = σ 3 from (by rw [iF 3 (by omega)]), show τ 4 = σ 4 from (by rw [iF 4 (by omega)])]
        rw [show (if 0 ≤ pl ∧ pl < σ 3 1 then σ 4 pl else 0) = mSg σ pl from rfl]
        refine z_bipush C (by decide +kernel) dX2_read_22 ?_
        refine z_icmp_ne C 31 dX2_read_24 (by decide) ⟨by omega, by omega⟩ ⟨by omega, by omega⟩ (fun c_24 => ?_) (fun c_24 => ?_)
        · refine z_iconst C dX2_read_31 ?_
          refine z_zast C hP hS za_6 ⟨by omega, by omega⟩ (by omega) dX2_read_32 (fun H locs hP hS => ?_)
          obtain ⟨t1, et1⟩ : ∃ z : zS, z = zU τ 6 i 0 := ⟨_, rfl⟩
          rw [← et1] at hP
          refine z_aload_n C hl 0 rfl dX2_read_33 ?_
          refine zg_X2_9 C hP dX2_read_34 ?_
          refine z_iload C hl 4 rfl dX2_read_37 ?_
          refine z_zald C hP za_6 ⟨by omega, by omega⟩ dX2_read_39 ?_
          rw [show t1 6 i = 0 from by rw [et1, zU_same]]
          refine z_ifT_eq C 46 dX2_read_40 (by decide) ⟨by decide, by decide⟩ (by decide) ?_
          refine z_aload_n C hl 0 rfl dX2_read_46 ?_
          refine zg_X2_15 C hP dX2_read_47 ?_
          refine z_iload C hl 4 rfl dX2_read_50 ?_
          refine z_aload_n C hl 1 rfl dX2_read_52 ?_
          refine z_iload_n C hl 3 rfl dX2_read_53 ?_
          refine z_vSi C hP (As := [.int (iI pl)]) lk_X2_25 (c_X1_signAt hI t1 pl (by rw [show t1 3 = σ 3 from (by rw [et1, zU_cell (by omega), iF 3 (by omega)])]; exact hp) (by omega)) ob_3 rfl rfl rfl hl.1 rfl (Nat.le_of_ble_eq_true rfl) ⟨Nat.le_of_ble_eq_true rfl, Nat.le_of_ble_eq_true rfl⟩ ⟨Nat.zero_le _, Nat.zero_le _⟩ dX2_read_54 ?_
          rw [show t1 3 = σ 3 from (by rw [et1, zU_cell (by omega), iF 3 (by omega)]), show t1 4 = σ 4 from (by rw [et1, zU_cell (by omega), iF 4 (by omega)])]
          rw [show (if 0 ≤ pl ∧ pl < σ 3 1 then σ 4 pl else 0) = mSg σ pl from rfl]
          rw [show pl = mQ (mSg σ) i from (by omega)]
          refine z_bipush C (by decide +kernel) dX2_read_57 ?_
          refine z_isub C dX2_read_59 ?_
          rw [show (mSg σ (mQ (mSg σ) i)) - 48 = mEF (mSg σ) i from rfl]
          refine z_iast C hP hS ia_7 ⟨by omega, by omega⟩ dX2_read_60 (fun H locs hP hS => ?_)
          obtain ⟨t2, et2⟩ : ∃ z : zS, z = zU t1 7 i (mEF (mSg σ) i) := ⟨_, rfl⟩
          rw [← et2] at hP
          have hEF : mEF (mSg σ) i = mSg σ (mQ (mSg σ) i) - 48 := rfl
          refine z_aload_n C hl 0 rfl dX2_read_61 ?_
          refine zg_X2_15 C hP dX2_read_62 ?_
          refine z_iload C hl 4 rfl dX2_read_65 ?_
          refine z_iald C hP ia_7 ⟨by omega, by omega⟩ dX2_read_67 ?_
          rw [show t2 7 i = mEF (mSg σ) i from by rw [et2, zU_same]]
          refine z_nSi C hP (As := [.int (iI (mEF (mSg σ) i))]) lk_X2_31 (c_X7_isEffort hI t2 (mEF (mSg σ) i) ⟨by omega, by omega⟩) rfl hl.1 rfl (Nat.le_of_ble_eq_true rfl) ⟨Nat.le_of_ble_eq_true rfl, Nat.le_of_ble_eq_true rfl⟩ ⟨Nat.zero_le _, Nat.zero_le _⟩ dX2_read_68 ?_
          by_cases b_68 : 0 ≤ (mEF (mSg σ) i) ∧ (mEF (mSg σ) i) ≤ 4
          · rw [show (if 0 ≤ (mEF (mSg σ) i) ∧ (mEF (mSg σ) i) ≤ 4 then (1 : Int) else 0) = 1 from if_pos b_68]
            refine z_ifT_ne C 76 dX2_read_71 (by decide) ⟨by decide, by decide⟩ (by decide) ?_
            refine z_iinc C 3 [1, 2, 3, 0, 4] [(0, .ref (a 5)), (1, .ref (a 3)), (2, .int (iI n0)), (3, .int (iI (pl + 1))), (4, .int (iI i))] hl rfl (by decide) rfl dX2_read_76 (fun ls hl => ?_)
            refine z_aload_n C hl 0 rfl dX2_read_79 ?_
            refine zg_X2_19 C hP dX2_read_80 ?_
            refine z_iload C hl 4 rfl dX2_read_83 ?_
            refine z_aload_n C hl 1 rfl dX2_read_85 ?_
            refine z_iload_n C hl 3 rfl dX2_read_86 ?_
            refine z_vSi C hP (As := [.int (iI (pl + 1))]) lk_X2_25 (c_X1_signAt hI t2 (pl + 1) (by rw [show t2 3 = σ 3 from (by rw [et2, zU_cell (by omega), et1, zU_cell (by omega), iF 3 (by omega)])]; exact hp) (by omega)) ob_3 rfl rfl rfl hl.1 rfl (Nat.le_of_ble_eq_true rfl) ⟨Nat.le_of_ble_eq_true rfl, Nat.le_of_ble_eq_true rfl⟩ ⟨Nat.zero_le _, Nat.zero_le _⟩ dX2_read_87 ?_
            rw [show t2 3 = σ 3 from (by rw [et2, zU_cell (by omega), et1, zU_cell (by omega), iF 3 (by omega)]), show t2 4 = σ 4 from (by rw [et2, zU_cell (by omega), et1, zU_cell (by omega), iF 4 (by omega)])]
            rw [show (if 0 ≤ (pl + 1) ∧ (pl + 1) < σ 3 1 then σ 4 (pl + 1) else 0) = mSg σ (pl + 1) from rfl]
            rw [show (pl + 1) = mQ (mSg σ) i + 1 from (by omega)]
            refine z_bipush C (by decide +kernel) dX2_read_90 ?_
            refine z_isub C dX2_read_92 ?_
            rw [show (mSg σ (mQ (mSg σ) i + 1)) - 48 = mEB (mSg σ) i from rfl]
            refine z_iast C hP hS ia_8 ⟨by omega, by omega⟩ dX2_read_93 (fun H locs hP hS => ?_)
            obtain ⟨t3, et3⟩ : ∃ z : zS, z = zU t2 8 i (mEB (mSg σ) i) := ⟨_, rfl⟩
            rw [← et3] at hP
            have hEB : mEB (mSg σ) i = mSg σ (mQ (mSg σ) i + 1) - 48 := rfl
            refine z_aload_n C hl 0 rfl dX2_read_94 ?_
            refine zg_X2_19 C hP dX2_read_95 ?_
            refine z_iload C hl 4 rfl dX2_read_98 ?_
            refine z_iald C hP ia_8 ⟨by omega, by omega⟩ dX2_read_100 ?_
            rw [show t3 8 i = mEB (mSg σ) i from by rw [et3, zU_same]]
            refine z_nSi C hP (As := [.int (iI (mEB (mSg σ) i))]) lk_X2_31 (c_X7_isEffort hI t3 (mEB (mSg σ) i) ⟨by omega, by omega⟩) rfl hl.1 rfl (Nat.le_of_ble_eq_true rfl) ⟨Nat.le_of_ble_eq_true rfl, Nat.le_of_ble_eq_true rfl⟩ ⟨Nat.zero_le _, Nat.zero_le _⟩ dX2_read_101 ?_
            by_cases b_101 : 0 ≤ (mEB (mSg σ) i) ∧ (mEB (mSg σ) i) ≤ 4
            · rw [show (if 0 ≤ (mEB (mSg σ) i) ∧ (mEB (mSg σ) i) ≤ 4 then (1 : Int) else 0) = 1 from if_pos b_101]
              refine z_ifT_ne C 109 dX2_read_104 (by decide) ⟨by decide, by decide⟩ (by decide) ?_
              refine z_iinc C 3 [1, 2, 3, 0, 4] [(0, .ref (a 5)), (1, .ref (a 3)), (2, .int (iI n0)), (3, .int (iI ((pl + 1) + 1))), (4, .int (iI i))] hl rfl (by decide) rfl dX2_read_109 (fun ls hl => ?_)
              refine z_aload_n C hl 0 rfl dX2_read_112 ?_
              refine zg_X2_22 C hP dX2_read_113 ?_
              refine z_iload C hl 4 rfl dX2_read_116 ?_
              refine z_aload_n C hl 1 rfl dX2_read_118 ?_
              refine z_iload_n C hl 3 rfl dX2_read_119 ?_
              refine z_vSi C hP (As := [.int (iI ((pl + 1) + 1))]) lk_X2_25 (c_X1_signAt hI t3 ((pl + 1) + 1) (by rw [show t3 3 = σ 3 from (by rw [et3, zU_cell (by omega), et2, zU_cell (by omega), et1, zU_cell (by omega), iF 3 (by omega)])]; exact hp) (by omega)) ob_3 rfl rfl rfl hl.1 rfl (Nat.le_of_ble_eq_true rfl) ⟨Nat.le_of_ble_eq_true rfl, Nat.le_of_ble_eq_true rfl⟩ ⟨Nat.zero_le _, Nat.zero_le _⟩ dX2_read_120 ?_
              rw [show t3 3 = σ 3 from (by rw [et3, zU_cell (by omega), et2, zU_cell (by omega), et1, zU_cell (by omega), iF 3 (by omega)]), show t3 4 = σ 4 from (by rw [et3, zU_cell (by omega), et2, zU_cell (by omega), et1, zU_cell (by omega), iF 4 (by omega)])]
              rw [show (if 0 ≤ ((pl + 1) + 1) ∧ ((pl + 1) + 1) < σ 3 1 then σ 4 ((pl + 1) + 1) else 0) = mSg σ ((pl + 1) + 1) from rfl]
              rw [show ((pl + 1) + 1) = mQ (mSg σ) i + 2 from (by omega)]
              refine z_bipush C (by decide +kernel) dX2_read_123 ?_
              refine z_isub C dX2_read_125 ?_
              refine z_iconst C dX2_read_126 ?_
              refine z_iadd C dX2_read_127 ?_
              rw [show ((mSg σ (mQ (mSg σ) i + 2)) - 97) + 4 = mBt (mSg σ) i from (by unfold mBt; omega)]
              refine z_iast C hP hS ia_9 ⟨by omega, by omega⟩ dX2_read_128 (fun H locs hP hS => ?_)
              obtain ⟨t4, et4⟩ : ∃ z : zS, z = zU t3 9 i (mBt (mSg σ) i) := ⟨_, rfl⟩
              rw [← et4] at hP
              have hBT : mBt (mSg σ) i = mSg σ (mQ (mSg σ) i + 2) - 93 := rfl
              refine z_aload_n C hl 0 rfl dX2_read_129 ?_
              refine zg_X2_22 C hP dX2_read_130 ?_
              refine z_iload C hl 4 rfl dX2_read_133 ?_
              refine z_iald C hP ia_9 ⟨by omega, by omega⟩ dX2_read_135 ?_
              rw [show t4 9 i = mBt (mSg σ) i from by rw [et4, zU_same]]
              refine z_iconst C dX2_read_136 ?_
              refine z_bipush C (by decide +kernel) dX2_read_137 ?_
              refine z_nSi C hP (As := [.int (iI (mBt (mSg σ) i)), .int (iI 4), .int (iI 10)]) lk_X2_35 (c_X7_isWithin hI t4 (mBt (mSg σ) i) 4 10 ⟨by omega, by omega⟩ ⟨by decide, by decide⟩ ⟨by decide, by decide⟩) rfl hl.1 rfl (Nat.le_of_ble_eq_true rfl) ⟨Nat.le_of_ble_eq_true rfl, Nat.le_of_ble_eq_true rfl⟩ ⟨Nat.zero_le _, Nat.zero_le _⟩ dX2_read_139 ?_
              by_cases b_139 : 4 ≤ (mBt (mSg σ) i) ∧ (mBt (mSg σ) i) ≤ 10
              · rw [show (if 4 ≤ (mBt (mSg σ) i) ∧ (mBt (mSg σ) i) ≤ 10 then (1 : Int) else 0) = 1 from if_pos b_139]
                refine z_ifT_ne C 147 dX2_read_142 (by decide) ⟨by decide, by decide⟩ (by decide) ?_
                refine z_iinc C 3 [1, 2, 3, 0, 4] [(0, .ref (a 5)), (1, .ref (a 3)), (2, .int (iI n0)), (3, .int (iI (((pl + 1) + 1) + 1))), (4, .int (iI i))] hl rfl (by decide) rfl dX2_read_147 (fun ls hl => ?_)
                refine z_iinc C 4 [1, 2, 3, 4, 0] [(0, .ref (a 5)), (1, .ref (a 3)), (2, .int (iI n0)), (3, .int (iI (((pl + 1) + 1) + 1))), (4, .int (iI (i + 1)))] hl rfl (by decide) rfl dX2_read_150 (fun ls hl => ?_)
                refine z_goto C 5 dX2_read_153 (by decide) ?_
                exact ih_5 (((pl + 1) + 1) + 1) (i + 1) t4 H locs hP hS ls (by omega) (by rw [mPl_s _ (by omega)]; omega) (by omega) (by intro k hk; exact (by rw [et4, zU_cell (by omega), et3, zU_cell (by omega), et2, zU_cell (by omega), et1, zU_cell (by omega), iF k (by omega)])) (by intro j h1 h2; exact if hj : j = i then (by subst hj; simp [et4, et3, et2, et1, zU]; omega) else (by have hd := iD j h1 (by omega); simp [et4, et3, et2, et1, zU, hj]; exact hd)) (by rw [iv, mRd_s _ _ _ (by omega), if_pos b_68, if_pos b_101, if_pos b_139]) (by omega) (lv_sub hl [0, 1, 2, 3, 4] rfl)
              · rw [show (if 4 ≤ (mBt (mSg σ) i) ∧ (mBt (mSg σ) i) ≤ 10 then (1 : Int) else 0) = 0 from if_neg b_139]
                refine z_ifF_ne C 147 dX2_read_142 (by decide) ⟨by decide, by decide⟩ (by decide) ?_
                refine z_iload_n C hl 3 rfl dX2_read_145 ?_
                exact z_retQi C hP hS hr hlocks rfl (by exact ⟨(by rw [iv, mRd_s _ _ _ (by omega)]; first | (rw [if_neg b_68]; omega) | (rw [if_pos b_68, if_neg b_101]; omega) | (rw [if_pos b_68, if_pos b_101, if_neg b_139]; omega)), fun k hk => (by rw [et4, zU_cell (by omega), et3, zU_cell (by omega), et2, zU_cell (by omega), et1, zU_cell (by omega), iF k (by omega)]), fun h => (by exfalso; omega)⟩) dX2_read_146
            · rw [show (if 0 ≤ (mEB (mSg σ) i) ∧ (mEB (mSg σ) i) ≤ 4 then (1 : Int) else 0) = 0 from if_neg b_101]
              refine z_ifF_ne C 109 dX2_read_104 (by decide) ⟨by decide, by decide⟩ (by decide) ?_
              refine z_iload_n C hl 3 rfl dX2_read_107 ?_
              exact z_retQi C hP hS hr hlocks rfl (by exact ⟨(by rw [iv, mRd_s _ _ _ (by omega)]; first | (rw [if_neg b_68]; omega) | (rw [if_pos b_68, if_neg b_101]; omega) | (rw [if_pos b_68, if_pos b_101, if_neg b_139]; omega)), fun k hk => (by rw [et3, zU_cell (by omega), et2, zU_cell (by omega), et1, zU_cell (by omega), iF k (by omega)]), fun h => (by exfalso; omega)⟩) dX2_read_108
          · rw [show (if 0 ≤ (mEF (mSg σ) i) ∧ (mEF (mSg σ) i) ≤ 4 then (1 : Int) else 0) = 0 from if_neg b_68]
            refine z_ifF_ne C 76 dX2_read_71 (by decide) ⟨by decide, by decide⟩ (by decide) ?_
            refine z_iload_n C hl 3 rfl dX2_read_74 ?_
            exact z_retQi C hP hS hr hlocks rfl (by exact ⟨(by rw [iv, mRd_s _ _ _ (by omega)]; first | (rw [if_neg b_68]; omega) | (rw [if_pos b_68, if_neg b_101]; omega) | (rw [if_pos b_68, if_pos b_101, if_neg b_139]; omega)), fun k hk => (by rw [et2, zU_cell (by omega), et1, zU_cell (by omega), iF k (by omega)]), fun h => (by exfalso; omega)⟩) dX2_read_75
        · refine z_iconst C dX2_read_27 ?_
          refine z_goto C 32 dX2_read_28 (by decide) ?_
          refine z_zast C hP hS za_6 ⟨by omega, by omega⟩ (by omega) dX2_read_32 (fun H locs hP hS => ?_)
          obtain ⟨t5, et5⟩ : ∃ z : zS, z = zU τ 6 i 1 := ⟨_, rfl⟩
          rw [← et5] at hP
          refine z_aload_n C hl 0 rfl dX2_read_33 ?_
          refine zg_X2_9 C hP dX2_read_34 ?_
          refine z_iload C hl 4 rfl dX2_read_37 ?_
          refine z_zald C hP za_6 ⟨by omega, by omega⟩ dX2_read_39 ?_
          rw [show t5 6 i = 1 from by rw [et5, zU_same]]
          refine z_ifF_eq C 46 dX2_read_40 (by decide) ⟨by decide, by decide⟩ (by decide) ?_
          refine z_iinc C 3 [1, 2, 3, 0, 4] [(0, .ref (a 5)), (1, .ref (a 3)), (2, .int (iI n0)), (3, .int (iI (pl + 1))), (4, .int (iI i))] hl rfl (by decide) rfl dX2_read_43 (fun ls hl => ?_)
          refine z_aload_n C hl 0 rfl dX2_read_46 ?_
          refine zg_X2_15 C hP dX2_read_47 ?_
          refine z_iload C hl 4 rfl dX2_read_50 ?_
          refine z_aload_n C hl 1 rfl dX2_read_52 ?_
          refine z_iload_n C hl 3 rfl dX2_read_53 ?_
          refine z_vSi C hP (As := [.int (iI (pl + 1))]) lk_X2_25 (c_X1_signAt hI t5 (pl + 1) (by rw [show t5 3 = σ 3 from (by rw [et5, zU_cell (by omega), iF 3 (by omega)])]; exact hp) (by omega)) ob_3 rfl rfl rfl hl.1 rfl (Nat.le_of_ble_eq_true rfl) ⟨Nat.le_of_ble_eq_true rfl, Nat.le_of_ble_eq_true rfl⟩ ⟨Nat.zero_le _, Nat.zero_le _⟩ dX2_read_54 ?_
          rw [show t5 3 = σ 3 from (by rw [et5, zU_cell (by omega), iF 3 (by omega)]), show t5 4 = σ 4 from (by rw [et5, zU_cell (by omega), iF 4 (by omega)])]
          rw [show (if 0 ≤ (pl + 1) ∧ (pl + 1) < σ 3 1 then σ 4 (pl + 1) else 0) = mSg σ (pl + 1) from rfl]
          rw [show (pl + 1) = mQ (mSg σ) i from (by omega)]
          refine z_bipush C (by decide +kernel) dX2_read_57 ?_
          refine z_isub C dX2_read_59 ?_
          rw [show (mSg σ (mQ (mSg σ) i)) - 48 = mEF (mSg σ) i from rfl]
          refine z_iast C hP hS ia_7 ⟨by omega, by omega⟩ dX2_read_60 (fun H locs hP hS => ?_)
          obtain ⟨t6, et6⟩ : ∃ z : zS, z = zU t5 7 i (mEF (mSg σ) i) := ⟨_, rfl⟩
          rw [← et6] at hP
          have hEF : mEF (mSg σ) i = mSg σ (mQ (mSg σ) i) - 48 := rfl
          refine z_aload_n C hl 0 rfl dX2_read_61 ?_
          refine zg_X2_15 C hP dX2_read_62 ?_
          refine z_iload C hl 4 rfl dX2_read_65 ?_
          refine z_iald C hP ia_7 ⟨by omega, by omega⟩ dX2_read_67 ?_
          rw [show t6 7 i = mEF (mSg σ) i from by rw [et6, zU_same]]
          refine z_nSi C hP (As := [.int (iI (mEF (mSg σ) i))]) lk_X2_31 (c_X7_isEffort hI t6 (mEF (mSg σ) i) ⟨by omega, by omega⟩) rfl hl.1 rfl (Nat.le_of_ble_eq_true rfl) ⟨Nat.le_of_ble_eq_true rfl, Nat.le_of_ble_eq_true rfl⟩ ⟨Nat.zero_le _, Nat.zero_le _⟩ dX2_read_68 ?_
          by_cases b_68 : 0 ≤ (mEF (mSg σ) i) ∧ (mEF (mSg σ) i) ≤ 4
          · rw [show (if 0 ≤ (mEF (mSg σ) i) ∧ (mEF (mSg σ) i) ≤ 4 then (1 : Int) else 0) = 1 from if_pos b_68]
            refine z_ifT_ne C 76 dX2_read_71 (by decide) ⟨by decide, by decide⟩ (by decide) ?_
            refine z_iinc C 3 [1, 2, 3, 0, 4] [(0, .ref (a 5)), (1, .ref (a 3)), (2, .int (iI n0)), (3, .int (iI ((pl + 1) + 1))), (4, .int (iI i))] hl rfl (by decide) rfl dX2_read_76 (fun ls hl => ?_)
            refine z_aload_n C hl 0 rfl dX2_read_79 ?_
            refine zg_X2_19 C hP dX2_read_80 ?_
            refine z_iload C hl 4 rfl dX2_read_83 ?_
            refine z_aload_n C hl 1 rfl dX2_read_85 ?_
            refine z_iload_n C hl 3 rfl dX2_read_86 ?_
            refine z_vSi C hP (As := [.int (iI ((pl + 1) + 1))]) lk_X2_25 (c_X1_signAt hI t6 ((pl + 1) + 1) (by rw [show t6 3 = σ 3 from (by rw [et6, zU_cell (by omega), et5, zU_cell (by omega), iF 3 (by omega)])]; exact hp) (by omega)) ob_3 rfl rfl rfl hl.1 rfl (Nat.le_of_ble_eq_true rfl) ⟨Nat.le_of_ble_eq_true rfl, Nat.le_of_ble_eq_true rfl⟩ ⟨Nat.zero_le _, Nat.zero_le _⟩ dX2_read_87 ?_
            rw [show t6 3 = σ 3 from (by rw [et6, zU_cell (by omega), et5, zU_cell (by omega), iF 3 (by omega)]), show t6 4 = σ 4 from (by rw [et6, zU_cell (by omega), et5, zU_cell (by omega), iF 4 (by omega)])]
            rw [show (if 0 ≤ ((pl + 1) + 1) ∧ ((pl + 1) + 1) < σ 3 1 then σ 4 ((pl + 1) + 1) else 0) = mSg σ ((pl + 1) + 1) from rfl]
            rw [show ((pl + 1) + 1) = mQ (mSg σ) i + 1 from (by omega)]
            refine z_bipush C (by decide +kernel) dX2_read_90 ?_
            refine z_isub C dX2_read_92 ?_
            rw [show (mSg σ (mQ (mSg σ) i + 1)) - 48 = mEB (mSg σ) i from rfl]
            refine z_iast C hP hS ia_8 ⟨by omega, by omega⟩ dX2_read_93 (fun H locs hP hS => ?_)
            obtain ⟨t7, et7⟩ : ∃ z : zS, z = zU t6 8 i (mEB (mSg σ) i) := ⟨_, rfl⟩
            rw [← et7] at hP
            have hEB : mEB (mSg σ) i = mSg σ (mQ (mSg σ) i + 1) - 48 := rfl
            refine z_aload_n C hl 0 rfl dX2_read_94 ?_
            refine zg_X2_19 C hP dX2_read_95 ?_
            refine z_iload C hl 4 rfl dX2_read_98 ?_
            refine z_iald C hP ia_8 ⟨by omega, by omega⟩ dX2_read_100 ?_
            rw [show t7 8 i = mEB (mSg σ) i from by rw [et7, zU_same]]
            refine z_nSi C hP (As := [.int (iI (mEB (mSg σ) i))]) lk_X2_31 (c_X7_isEffort hI t7 (mEB (mSg σ) i) ⟨by omega, by omega⟩) rfl hl.1 rfl (Nat.le_of_ble_eq_true rfl) ⟨Nat.le_of_ble_eq_true rfl, Nat.le_of_ble_eq_true rfl⟩ ⟨Nat.zero_le _, Nat.zero_le _⟩ dX2_read_101 ?_
            by_cases b_101 : 0 ≤ (mEB (mSg σ) i) ∧ (mEB (mSg σ) i) ≤ 4
            · rw [show (if 0 ≤ (mEB (mSg σ) i) ∧ (mEB (mSg σ) i) ≤ 4 then (1 : Int) else 0) = 1 from if_pos b_101]
              refine z_ifT_ne C 109 dX2_read_104 (by decide) ⟨by decide, by decide⟩ (by decide) ?_
              refine z_iinc C 3 [1, 2, 3, 0, 4] [(0, .ref (a 5)), (1, .ref (a 3)), (2, .int (iI n0)), (3, .int (iI (((pl + 1) + 1) + 1))), (4, .int (iI i))] hl rfl (by decide) rfl dX2_read_109 (fun ls hl => ?_)
              refine z_aload_n C hl 0 rfl dX2_read_112 ?_
              refine zg_X2_22 C hP dX2_read_113 ?_
              refine z_iload C hl 4 rfl dX2_read_116 ?_
              refine z_aload_n C hl 1 rfl dX2_read_118 ?_
              refine z_iload_n C hl 3 rfl dX2_read_119 ?_
              refine z_vSi C hP (As := [.int (iI (((pl + 1) + 1) + 1))]) lk_X2_25 (c_X1_signAt hI t7 (((pl + 1) + 1) + 1) (by rw [show t7 3 = σ 3 from (by rw [et7, zU_cell (by omega), et6, zU_cell (by omega), et5, zU_cell (by omega), iF 3 (by omega)])]; exact hp) (by omega)) ob_3 rfl rfl rfl hl.1 rfl (Nat.le_of_ble_eq_true rfl) ⟨Nat.le_of_ble_eq_true rfl, Nat.le_of_ble_eq_true rfl⟩ ⟨Nat.zero_le _, Nat.zero_le _⟩ dX2_read_120 ?_
              rw [show t7 3 = σ 3 from (by rw [et7, zU_cell (by omega), et6, zU_cell (by omega), et5, zU_cell (by omega), iF 3 (by omega)]), show t7 4 = σ 4 from (by rw [et7, zU_cell (by omega), et6, zU_cell (by omega), et5, zU_cell (by omega), iF 4 (by omega)])]
              rw [show (if 0 ≤ (((pl + 1) + 1) + 1) ∧ (((pl + 1) + 1) + 1) < σ 3 1 then σ 4 (((pl + 1) + 1) + 1) else 0) = mSg σ (((pl + 1) + 1) + 1) from rfl]
              rw [show (((pl + 1) + 1) + 1) = mQ (mSg σ) i + 2 from (by omega)]
              refine z_bipush C (by decide +kernel) dX2_read_123 ?_
              refine z_isub C dX2_read_125 ?_
              refine z_iconst C dX2_read_126 ?_
              refine z_iadd C dX2_read_127 ?_
              rw [show ((mSg σ (mQ (mSg σ) i + 2)) - 97) + 4 = mBt (mSg σ) i from (by unfold mBt; omega)]
              refine z_iast C hP hS ia_9 ⟨by omega, by omega⟩ dX2_read_128 (fun H locs hP hS => ?_)
              obtain ⟨t8, et8⟩ : ∃ z : zS, z = zU t7 9 i (mBt (mSg σ) i) := ⟨_, rfl⟩
              rw [← et8] at hP
              have hBT : mBt (mSg σ) i = mSg σ (mQ (mSg σ) i + 2) - 93 := rfl
              refine z_aload_n C hl 0 rfl dX2_read_129 ?_
              refine zg_X2_22 C hP dX2_read_130 ?_
              refine z_iload C hl 4 rfl dX2_read_133 ?_
              refine z_iald C hP ia_9 ⟨by omega, by omega⟩ dX2_read_135 ?_
              rw [show t8 9 i = mBt (mSg σ) i from by rw [et8, zU_same]]
              refine z_iconst C dX2_read_136 ?_
              refine z_bipush C (by decide +kernel) dX2_read_137 ?_
              refine z_nSi C hP (As := [.int (iI (mBt (mSg σ) i)), .int (iI 4), .int (iI 10)]) lk_X2_35 (c_X7_isWithin hI t8 (mBt (mSg σ) i) 4 10 ⟨by omega, by omega⟩ ⟨by decide, by decide⟩ ⟨by decide, by decide⟩) rfl hl.1 rfl (Nat.le_of_ble_eq_true rfl) ⟨Nat.le_of_ble_eq_true rfl, Nat.le_of_ble_eq_true rfl⟩ ⟨Nat.zero_le _, Nat.zero_le _⟩ dX2_read_139 ?_
              by_cases b_139 : 4 ≤ (mBt (mSg σ) i) ∧ (mBt (mSg σ) i) ≤ 10
              · rw [show (if 4 ≤ (mBt (mSg σ) i) ∧ (mBt (mSg σ) i) ≤ 10 then (1 : Int) else 0) = 1 from if_pos b_139]
                refine z_ifT_ne C 147 dX2_read_142 (by decide) ⟨by decide, by decide⟩ (by decide) ?_
                refine z_iinc C 3 [1, 2, 3, 0, 4] [(0, .ref (a 5)), (1, .ref (a 3)), (2, .int (iI n0)), (3, .int (iI ((((pl + 1) + 1) + 1) + 1))), (4, .int (iI i))] hl rfl (by decide) rfl dX2_read_147 (fun ls hl => ?_)
                refine z_iinc C 4 [1, 2, 3, 4, 0] [(0, .ref (a 5)), (1, .ref (a 3)), (2, .int (iI n0)), (3, .int (iI ((((pl + 1) + 1) + 1) + 1))), (4, .int (iI (i + 1)))] hl rfl (by decide) rfl dX2_read_150 (fun ls hl => ?_)
                refine z_goto C 5 dX2_read_153 (by decide) ?_
                exact ih_5 ((((pl + 1) + 1) + 1) + 1) (i + 1) t8 H locs hP hS ls (by omega) (by rw [mPl_s _ (by omega)]; omega) (by omega) (by intro k hk; exact (by rw [et8, zU_cell (by omega), et7, zU_cell (by omega), et6, zU_cell (by omega), et5, zU_cell (by omega), iF k (by omega)])) (by intro j h1 h2; exact if hj : j = i then (by subst hj; simp [et8, et7, et6, et5, zU]; omega) else (by have hd := iD j h1 (by omega); simp [et8, et7, et6, et5, zU, hj]; exact hd)) (by rw [iv, mRd_s _ _ _ (by omega), if_pos b_68, if_pos b_101, if_pos b_139]) (by omega) (lv_sub hl [0, 1, 2, 3, 4] rfl)
              · rw [show (if 4 ≤ (mBt (mSg σ) i) ∧ (mBt (mSg σ) i) ≤ 10 then (1 : Int) else 0) = 0 from if_neg b_139]
                refine z_ifF_ne C 147 dX2_read_142 (by decide) ⟨by decide, by decide⟩ (by decide) ?_
                refine z_iload_n C hl 3 rfl dX2_read_145 ?_
                exact z_retQi C hP hS hr hlocks rfl (by exact ⟨(by rw [iv, mRd_s _ _ _ (by omega)]; first | (rw [if_neg b_68]; omega) | (rw [if_pos b_68, if_neg b_101]; omega) | (rw [if_pos b_68, if_pos b_101, if_neg b_139]; omega)), fun k hk => (by rw [et8, zU_cell (by omega), et7, zU_cell (by omega), et6, zU_cell (by omega), et5, zU_cell (by omega), iF k (by omega)]), fun h => (by exfalso; omega)⟩) dX2_read_146
            · rw [show (if 0 ≤ (mEB (mSg σ) i) ∧ (mEB (mSg σ) i) ≤ 4 then (1 : Int) else 0) = 0 from if_neg b_101]
              refine z_ifF_ne C 109 dX2_read_104 (by decide) ⟨by decide, by decide⟩ (by decide) ?_
              refine z_iload_n C hl 3 rfl dX2_read_107 ?_
              exact z_retQi C hP hS hr hlocks rfl (by exact ⟨(by rw [iv, mRd_s _ _ _ (by omega)]; first | (rw [if_neg b_68]; omega) | (rw [if_pos b_68, if_neg b_101]; omega) | (rw [if_pos b_68, if_pos b_101, if_neg b_139]; omega)), fun k hk => (by rw [et7, zU_cell (by omega), et6, zU_cell (by omega), et5, zU_cell (by omega), iF k (by omega)]), fun h => (by exfalso; omega)⟩) dX2_read_108
          · rw [show (if 0 ≤ (mEF (mSg σ) i) ∧ (mEF (mSg σ) i) ≤ 4 then (1 : Int) else 0) = 0 from if_neg b_68]
            refine z_ifF_ne C 76 dX2_read_71 (by decide) ⟨by decide, by decide⟩ (by decide) ?_
            refine z_iload_n C hl 3 rfl dX2_read_74 ?_
            exact z_retQi C hP hS hr hlocks rfl (by exact ⟨(by rw [iv, mRd_s _ _ _ (by omega)]; first | (rw [if_neg b_68]; omega) | (rw [if_pos b_68, if_neg b_101]; omega) | (rw [if_pos b_68, if_pos b_101, if_neg b_139]; omega)), fun k hk => (by rw [et6, zU_cell (by omega), et5, zU_cell (by omega), iF k (by omega)]), fun h => (by exfalso; omega)⟩) dX2_read_75
  exact L_5 _ 0 0 σ _ _ hP hS ls (by omega) (by rfl) (by omega) (by intro k hk; rfl) (by intro j h1 h2; omega) (by rw [show n0 - 0 = n0 from (by omega)]) (Nat.lt_succ_self _) (lv_sub hl [0, 1, 2, 3, 4] rfl)
