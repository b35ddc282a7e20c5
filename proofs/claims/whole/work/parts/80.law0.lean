-- ===== the law: a script's ints, the loop's locals, the 32 kinds of call =====
def lx (xs : Nat → Int32) (z : Int) : Int := (xs z.toNat).toInt
theorem lx_r (xs : Nat → Int32) (z : Int) : R3 (lx xs z) := ⟨Int32.le_toInt _, Int32.toInt_lt _⟩
theorem lx_e (xs : Nat → Int32) (z : Int) : xs z.toNat = iI (lx xs z) := (Int32.ofInt_toInt _).symm
def lwC (p : Program) (s : State) (m : MethodId) (c : Code) (D : va_G) (Y : Nat → ClassId) (a : Int → Nat) (b L : Nat) (xs : Nat → Int32) : Prop := Cx p s m #[Value.ref b] c cL_law RL 4 D Y a ∧ va_X b L xs s s.heap ∧ b < s.heap.size ∧ ¬ inA a b ∧ L ≤ 384
abbrev lwV (a : Int → Nat) (b : Nat) (i : Int) : List (Nat × Value) := [(3, .int (iI i)), (2, .ref (a 100)), (1, .ref (a 0)), (0, .ref b)]
section LAWROWS
variable {p : Program} {l : Launch} {e : Env} {R : Room} {s : State} {m : MethodId} {args : Array Value} {below : List Frame} {meth : Method} {c : Code} {H : Heap} {locs : List Loc} {cells slots : Nat} {Q : State → Prop} {pc : Nat} {ls : Array Slot} {rest : List Value} {D : va_G} {Y : Nat → ClassId} {a : Int → Nat} {b L : Nat} {xs : Nat → Int32} {i : Int}
theorem lw_ld (C : lwC p s m c D Y a b L xs) (hS : va_S (inA a) s.heap H locs) (hl : lv_has ls 4 (lwV a b i)) {j z : Int} (hz : z = lx xs (i + j)) (hi : 0 ≤ i ∧ i + 6 ≤ L) (hj : 0 ≤ j ∧ j ≤ 5) (d1 : decode cL_law pc = .ok (.aload_n 0, 1)) (d2 : decode cL_law (pc + 1) = .ok (.iload_n 3, 1)) (d3 : decode cL_law (pc + 2) = .ok (.iconst j, 1)) (d4 : decode cL_law (pc + 3) = .ok (.iadd, 1)) (d5 : decode cL_law (pc + 4) = .ok (.iaload, 1)) (k : W p l e R s m #[Value.ref b] below meth c H locs cells slots Q (F0 m (pc + 5) ls (.int (iI z) :: rest))) : W p l e R s m #[Value.ref b] below meth c H locs cells slots Q (F0 m pc ls rest) := by
  have hL := C.2.2.2.2
  refine z_aload_n C.1 hl 3 rfl d1 ?_
  refine z_iload_n C.1 hl 0 rfl d2 ?_
  refine z_iconst C.1 d3 ?_
  refine z_iadd C.1 d4 ?_
  refine va_sld C.1.1 C.1.2.1 C.2.1 C.2.2.1 C.2.2.2.1 hS (i := iI (i + j)) (iI_in (by omega) (by omega) (by omega)) d5 ?_
  rw [iI_cl (by omega) (by omega), lx_e xs, ← hz]
  exact k
theorem lw_same (C : lwC p s m c D Y a b L xs) {r1 r2 : Int} (h : r1 = r2) {off : Int} (tgt : Nat) (hdg : decode cL_law pc = .ok (.if_icmp .eq off, 3)) (ht : (pc : Int) + off = (tgt : Int)) (k : W p l e R s m #[Value.ref b] below meth c H locs cells slots Q (F0 m tgt ls rest)) : W p l e R s m #[Value.ref b] below meth c H locs cells slots Q (F0 m pc ls (.int (iI r2) :: .int (iI r1) :: rest)) := by
  subst h
  obtain ⟨z, hz, e⟩ := iI_of (iI r1)
  rw [e]
  exact z_icmp_eq C.1 tgt hdg ht hz hz (fun _ => k) (fun q => absurd rfl q)
theorem lw_sameL (C : lwC p s m c D Y a b L xs) {r1 r2 : Int} (h : r1 = r2) {off : Int} (tgt : Nat) (hd1 : decode cL_law pc = .ok (.lcmp, 1)) (hdg : decode cL_law (pc + 1) = .ok (.ifCond .eq off, 3)) (ht : ((pc + 1 : Nat) : Int) + off = (tgt : Int)) (k : W p l e R s m #[Value.ref b] below meth c H locs cells slots Q (F0 m tgt ls rest)) : W p l e R s m #[Value.ref b] below meth c H locs cells slots Q (F0 m pc ls (.long (jI r2) :: .long (jI r1) :: rest)) := by
  subst h
  obtain ⟨z, hz, e⟩ := jI_of (jI r1)
  rw [e]
  exact z_lif_eq C.1 tgt hd1 hdg ht hz hz (fun _ => k) (fun q => absurd rfl q)
end LAWROWS
theorem fr_X7_rider {σ τ : zS} {r : Int} {rr str lik w th : Int} (p : if ¬ (0 ≤ rr ∧ rr ≤ 3) then r = -1 ∧ τ = σ else if ¬ (1 ≤ str ∧ str ≤ 20 ∧ 4 ≤ lik ∧ lik ≤ 10 ∧ 1 ≤ w ∧ w ≤ 9 ∧ 0 ≤ th ∧ th ≤ 50) then r = -2 ∧ τ = σ else τ = mCome σ (40 + rr) str lik w th ∧ r = mPop (mBits τ)) : ∀ c : Int, 100 ≤ c → τ c = σ c := by
  intro c hc
  repeat' split at p
  all_goals (obtain ⟨p1, p2⟩ := p)
  all_goals first
    | (rw [p2]; done)
    | (rw [p1]; unfold mCome; repeat (rw [zU_cell (by omega)]))
    | (rw [p1]; unfold mAddT; repeat (rw [zU_cell (by omega)]))
    | (rw [p1, zU_cell (by omega)]; unfold mTake; first | rfl | (funext j; first | rfl | (repeat (rw [if_neg (by omega)]))))
    | (rw [p1]; repeat (rw [zU_cell (by omega)]))
theorem fr_X7_leave {σ τ : zS} {r : Int} {rr : Int} (p : if ¬ (0 ≤ rr ∧ rr ≤ 3 ∧ σ (40 + rr) 0 = 1) then r = -1 ∧ τ = σ else τ = zU σ (40 + rr) 0 0 ∧ r = mPop (mBits τ)) : ∀ c : Int, 100 ≤ c → τ c = σ c := by
  intro c hc
  repeat' split at p
  all_goals (obtain ⟨p1, p2⟩ := p)
  all_goals first
    | (rw [p2]; done)
    | (rw [p1]; unfold mCome; repeat (rw [zU_cell (by omega)]))
    | (rw [p1]; unfold mAddT; repeat (rw [zU_cell (by omega)]))
    | (rw [p1, zU_cell (by omega)]; unfold mTake; first | rfl | (funext j; first | rfl | (repeat (rw [if_neg (by omega)]))))
    | (rw [p1]; repeat (rw [zU_cell (by omega)]))
theorem fr_X7_seat {σ τ : zS} {r : Int} {f b : Int} (p : if ¬ ((0 ≤ f ∧ f ≤ 3 ∧ σ (40 + f) 0 = 1) ∧ (0 ≤ b ∧ b ≤ 3 ∧ σ (40 + b) 0 = 1) ∧ f ≠ b) then r = -1 ∧ τ = σ else τ = zU (zU σ 32 7 f) 32 8 b ∧ r = 1) : ∀ c : Int, 100 ≤ c → τ c = σ c := by
  intro c hc
  repeat' split at p
  all_goals (obtain ⟨p1, p2⟩ := p)
  all_goals first
    | (rw [p2]; done)
    | (rw [p1]; unfold mCome; repeat (rw [zU_cell (by omega)]))
    | (rw [p1]; unfold mAddT; repeat (rw [zU_cell (by omega)]))
    | (rw [p1, zU_cell (by omega)]; unfold mTake; first | rfl | (funext j; first | rfl | (repeat (rw [if_neg (by omega)]))))
    | (rw [p1]; repeat (rw [zU_cell (by omega)]))
theorem fr_X7_set {σ τ : zS} {r : Int} {w0 v : Int} (p : if ¬ ((w0 = 0 ∧ 5 ≤ v ∧ v ≤ 20) ∨ (w0 = 1 ∧ 0 ≤ v ∧ v ≤ 99) ∨ (w0 = 2 ∧ 0 ≤ v ∧ v ≤ 50)) then r = -2 ∧ τ = σ else τ = zU σ 32 (9 + w0) v ∧ r = σ 32 (9 + w0)) : ∀ c : Int, 100 ≤ c → τ c = σ c := by
  intro c hc
  repeat' split at p
  all_goals (obtain ⟨p1, p2⟩ := p)
  all_goals first
    | (rw [p2]; done)
    | (rw [p1]; unfold mCome; repeat (rw [zU_cell (by omega)]))
    | (rw [p1]; unfold mAddT; repeat (rw [zU_cell (by omega)]))
    | (rw [p1, zU_cell (by omega)]; unfold mTake; first | rfl | (funext j; first | rfl | (repeat (rw [if_neg (by omega)]))))
    | (rw [p1]; repeat (rw [zU_cell (by omega)]))
theorem fr_X7_say {σ τ : zS} {r : Int} {sg : Int} (p : if ¬ (33 ≤ sg ∧ sg ≤ 126) then r = -2 ∧ τ = σ else if 110 ≤ σ 3 1 then r = -4 ∧ τ = σ else τ = zU (zU σ 4 (σ 3 1) sg) 3 1 (σ 3 1 + 1) ∧ r = σ 3 1 + 1) : ∀ c : Int, 100 ≤ c → τ c = σ c := by
  intro c hc
  repeat' split at p
  all_goals (obtain ⟨p1, p2⟩ := p)
  all_goals first
    | (rw [p2]; done)
    | (rw [p1]; unfold mCome; repeat (rw [zU_cell (by omega)]))
    | (rw [p1]; unfold mAddT; repeat (rw [zU_cell (by omega)]))
    | (rw [p1, zU_cell (by omega)]; unfold mTake; first | rfl | (funext j; first | rfl | (repeat (rw [if_neg (by omega)]))))
    | (rw [p1]; repeat (rw [zU_cell (by omega)]))
theorem fr_X7_wipe {σ τ : zS} {r : Int}  (p : τ = zU σ 3 1 0 ∧ r = σ 3 1) : ∀ c : Int, 100 ≤ c → τ c = σ c := by
  intro c hc
  first | (rw [p.2]; done) | (rw [p.1]; repeat (rw [zU_cell (by omega)]))
theorem fr_X7_fault {σ τ : zS} {r : Int} {hw : Int} (p : (hw = 0 → r = mFWg (σ 4) (σ 3 1) 110 0) ∧ (hw = 1 → r = mRd (mSg σ) (σ 32 12) (σ 3 1) (σ 32 12).toNat 0) ∧ (hw ≠ 0 → hw ≠ 1 → r = -2) ∧ (∀ k : Int, k < 6 ∨ 14 < k → τ k = σ k)) : ∀ c : Int, 100 ≤ c → τ c = σ c := by
  exact fun c hc => p.2.2.2 c (by omega)
theorem fr_X7_way {σ τ : zS} {r : Int}  (p : if mFWg (σ 4) (σ 3 1) 110 0 ≠ -6 then r = -5 ∧ τ = σ else τ = zU (mTake σ (σ 3 1) (σ 3 1)) 3 1 0 ∧ r = σ 3 1) : ∀ c : Int, 100 ≤ c → τ c = σ c := by
  intro c hc
  repeat' split at p
  all_goals (obtain ⟨p1, p2⟩ := p)
  all_goals first
    | (rw [p2]; done)
    | (rw [p1]; unfold mCome; repeat (rw [zU_cell (by omega)]))
    | (rw [p1]; unfold mAddT; repeat (rw [zU_cell (by omega)]))
    | (rw [p1, zU_cell (by omega)]; unfold mTake; first | rfl | (funext j; first | rfl | (repeat (rw [if_neg (by omega)]))))
    | (rw [p1]; repeat (rw [zU_cell (by omega)]))
theorem fr_X7_judge {σ τ : zS} {r : Int} {wh : Int} (p : (¬ (σ (40 + σ 32 7) 0 = 1 ∧ σ (40 + σ 32 8) 0 = 1) → r = -3) ∧ (σ (40 + σ 32 7) 0 = 1 ∧ σ (40 + σ 32 8) 0 = 1 → ¬ (0 ≤ wh ∧ wh ≤ 1) → r = -2) ∧ (σ (40 + σ 32 7) 0 = 1 ∧ σ (40 + σ 32 8) 0 = 1 → 0 ≤ wh ∧ wh ≤ 1 → (¬ kPl σ → r = -5) ∧ (kPl σ → (kAll σ → r = -6) ∧ (¬ kAll σ → ∃ q : Int, 0 ≤ q ∧ q < σ 32 12 ∧ kY (kRho σ) (-1) q ≠ -6 ∧ (∀ j : Int, 0 ≤ j → j < q → kY (kRho σ) (-1) j = -6) ∧ r = if wh = 0 then q else kY (kRho σ) (-1) q))) ∧ (∀ k : Int, k < 6 ∨ 14 < k → τ k = σ k)) : ∀ c : Int, 100 ≤ c → τ c = σ c := by
  exact fun c hc => p.2.2.2 c (by omega)
theorem fr_X7_ridden {σ τ : zS} {r : Int} {m0 wh : Int} (p : (¬ (σ (40 + σ 32 7) 0 = 1 ∧ σ (40 + σ 32 8) 0 = 1) → r = -3) ∧ (σ (40 + σ 32 7) 0 = 1 ∧ σ (40 + σ 32 8) 0 = 1 → ¬ (-1 ≤ m0 ∧ m0 ≤ σ 32 12 - 1 ∧ 0 ≤ wh ∧ wh ≤ 3) → r = -2) ∧ (σ (40 + σ 32 7) 0 = 1 ∧ σ (40 + σ 32 8) 0 = 1 → (-1 ≤ m0 ∧ m0 ≤ σ 32 12 - 1 ∧ 0 ≤ wh ∧ wh ≤ 3) → ¬ (kPl σ ∧ kAll σ) → r = -5) ∧ (σ (40 + σ 32 7) 0 = 1 ∧ σ (40 + σ 32 8) 0 = 1 → (-1 ≤ m0 ∧ m0 ≤ σ 32 12 - 1 ∧ 0 ≤ wh ∧ wh ≤ 3) → kPl σ → kAll σ → ∀ M0 : Int, M0 = (if m0 < 0 then σ 32 12 - 1 else m0) → r = (if wh = 0 then kS (kRho σ) (-1) (M0 + 1).toNat else if wh = 1 then kWF (kRho σ) (-1) (M0 + 1).toNat else if wh = 2 then kWB (kRho σ) (-1) (M0 + 1).toNat else kH (kRho σ) (-1) (M0 + 1).toNat)) ∧ (∀ k : Int, k < 6 ∨ 14 < k → τ k = σ k)) : ∀ c : Int, 100 ≤ c → τ c = σ c := by
  exact fun c hc => p.2.2.2.2 c (by omega)
theorem fr_X7_share {σ τ : zS} {r : Int} {pt : Int} (p : (¬ (σ (40 + σ 32 7) 0 = 1 ∧ σ (40 + σ 32 8) 0 = 1) → r = (-1000000000000000003)) ∧ (σ (40 + σ 32 7) 0 = 1 ∧ σ (40 + σ 32 8) 0 = 1 → ¬ (0 ≤ pt ∧ pt ≤ 1) → r = (-1000000000000000002)) ∧ (σ (40 + σ 32 7) 0 = 1 ∧ σ (40 + σ 32 8) 0 = 1 → 0 ≤ pt ∧ pt ≤ 1 → ¬ (kPl σ ∧ kAll σ) → r = (-1000000000000000005)) ∧ (σ (40 + σ 32 7) 0 = 1 ∧ σ (40 + σ 32 8) 0 = 1 → 0 ≤ pt ∧ pt ≤ 1 → kPl σ → kAll σ → r = if mSum (kTF (kRho σ)) (σ 32 12).toNat + mSum (kTB (kRho σ)) (σ 32 12).toNat = 0 then pt else mFrac (mSum (kTF (kRho σ)) (σ 32 12).toNat) (mSum (kTF (kRho σ)) (σ 32 12).toNat + mSum (kTB (kRho σ)) (σ 32 12).toNat) pt) ∧ (∀ k : Int, k < 6 ∨ 14 < k → τ k = σ k)) : ∀ c : Int, 100 ≤ c → τ c = σ c := by
  exact fun c hc => p.2.2.2.2 c (by omega)
theorem fr_X7_unseen {σ τ : zS} {r : Int}  (p : (¬ (σ (40 + σ 32 7) 0 = 1 ∧ σ (40 + σ 32 8) 0 = 1) → r = -3) ∧ (σ (40 + σ 32 7) 0 = 1 ∧ σ (40 + σ 32 8) 0 = 1 → ¬ (kPl σ ∧ kAll σ) → r = -5) ∧ (σ (40 + σ 32 7) 0 = 1 ∧ σ (40 + σ 32 8) 0 = 1 → kPl σ → kAll σ → r = mSum (kUf (kRho σ)) (σ 32 12).toNat) ∧ (∀ k : Int, k < 6 ∨ 14 < k → τ k = σ k)) : ∀ c : Int, 100 ≤ c → τ c = σ c := by
  exact fun c hc => p.2.2.2 c (by omega)
theorem fr_X7_soonest {σ τ : zS} {r : Int} {wh : Int} (p : (¬ (σ (40 + σ 32 7) 0 = 1 ∧ σ (40 + σ 32 8) 0 = 1) → r = -3) ∧ (σ (40 + σ 32 7) 0 = 1 ∧ σ (40 + σ 32 8) 0 = 1 → ¬ (0 ≤ wh ∧ wh ≤ 1) → r = -2) ∧ (σ (40 + σ 32 7) 0 = 1 ∧ σ (40 + σ 32 8) 0 = 1 → 0 ≤ wh ∧ wh ≤ 1 → ∃ ρ : zS, kSk σ ρ (40 + σ 32 7) (40 + σ 32 8) ∧ (wh = 0 → r = kB0 ρ) ∧ (wh = 1 → ∃ e b : Int, kFe ρ e ∧ kLb ρ (mHard (ρ 35 0)) (kQ ρ 0 e) (40 + σ 32 7) (40 + σ 32 8) e b ∧ r = 100 * (e / 5) + 10 * (e % 5) + b - 4)) ∧ (∀ c : Int, c < 15 ∨ 22 < c → τ c = σ c) ∧ kBf τ ∧ τ 15 10 = σ 15 10 ∧ τ 15 11 = σ 15 11) : ∀ c : Int, 100 ≤ c → τ c = σ c := by
  exact fun c hc => p.2.2.2.1 c (by omega)
theorem fr_X7_calls {σ τ : zS} {r : Int} {mo wh : Int} (p : (¬ ((0 ≤ mo ∧ mo ≤ 20) ∧ 0 ≤ wh ∧ wh ≤ 1) → r = -2) ∧ ((0 ≤ mo ∧ mo ≤ 20) ∧ 0 ≤ wh ∧ wh ≤ 1 → (12 < mSum (fun i => if σ 35 i = 5 then 1 else 0) (σ 32 12).toNat + mSum (fun i => if σ 35 i = 6 then 1 else 0) (σ 32 12).toNat → r = -4) ∧ (mSum (fun i => if σ 35 i = 5 then 1 else 0) (σ 32 12).toNat + mSum (fun i => if σ 35 i = 6 then 1 else 0) (σ 32 12).toNat ≤ 12 → ∃ C : Int → Int, kAd (σ 35) C ∧ kVa (σ 35) C mo (σ 32 12) ∧ (∀ C' : Int → Int, kAd (σ 35) C' → kVa (σ 35) C' mo (σ 32 12) → kCo C (σ 32 12).toNat ≤ kCo C' (σ 32 12).toNat) ∧ r = if wh = 0 then kCo C (σ 32 12).toNat / 16777216 else kCo C (σ 32 12).toNat % 16777216)) ∧ ((∀ c : Int, c ≠ 15 → c ≠ 23 → c ≠ 24 → τ c = σ c) ∧ ∀ j : Int, j ≠ 10 → j ≠ 11 → τ 15 j = σ 15 j) ∧ ((τ 15 10 = 23 ∧ τ 15 11 = 24) ∨ (τ 15 10 = 24 ∧ τ 15 11 = 23))) : ∀ c : Int, 100 ≤ c → τ c = σ c := by
  exact fun c hc => p.2.2.1.1 c (by omega) (by omega) (by omega)
theorem fr_X7_worth {σ τ : zS} {r : Int}  (p : (¬ (σ (40 + σ 32 7) 0 = 1 ∧ σ (40 + σ 32 8) 0 = 1) → r = -3) ∧ (σ (40 + σ 32 7) 0 = 1 ∧ σ (40 + σ 32 8) 0 = 1 → ¬ (kPl σ ∧ kNoR σ) → r = -5) ∧ (σ (40 + σ 32 7) 0 = 1 ∧ σ (40 + σ 32 8) 0 = 1 → kPl σ → kNoR σ → (kAll σ → r = -6) ∧ (∀ q : Int, 0 ≤ q → q < σ 32 12 → kY (kRho σ) (-1) q ≠ -6 → (∀ j : Int, 0 ≤ j → j < q → kY (kRho σ) (-1) j = -6) → ((r = -6 ∧ ∀ s : Int, 0 ≤ s → s ≤ q → ¬ kAllR σ s) ∨ (0 ≤ r ∧ r ≤ q ∧ kAllR σ r ∧ ∀ s : Int, 0 ≤ s → s < r → ¬ kAllR σ s)))) ∧ (∀ k : Int, k < 6 ∨ 14 < k → τ k = σ k)) : ∀ c : Int, 100 ≤ c → τ c = σ c := by
  exact fun c hc => p.2.2.2 c (by omega)
theorem fr_X7_bestPair {σ τ : zS} {r : Int} {wh : Int} (p : (¬ (0 ≤ wh ∧ wh ≤ 1) → r = -2) ∧ (0 ≤ wh ∧ wh ≤ 1 → ∃ fo le : Int, kPr σ 16 fo le ∧ r = if wh = 0 then fo else le) ∧ (∀ c : Int, c < 15 ∨ 22 < c → τ c = σ c) ∧ kBf τ ∧ τ 15 10 = σ 15 10 ∧ τ 15 11 = σ 15 11) : ∀ c : Int, 100 ≤ c → τ c = σ c := by
  exact fun c hc => p.2.2.1 c (by omega)
theorem fr_X7_quarrel {σ τ : zS} {r : Int} {n0 : Int} (p : (¬ (σ (40 + σ 32 7) 0 = 1 ∧ σ (40 + σ 32 8) 0 = 1) → r = -3) ∧ (σ (40 + σ 32 7) 0 = 1 ∧ σ (40 + σ 32 8) 0 = 1 → ¬ (0 ≤ n0 ∧ n0 ≤ 99) → r = -2) ∧ (σ (40 + σ 32 7) 0 = 1 ∧ σ (40 + σ 32 8) 0 = 1 → 0 ≤ n0 ∧ n0 ≤ 99 → ¬ (kPl σ ∧ kAll σ) → r = -5) ∧ (σ (40 + σ 32 7) 0 = 1 ∧ σ (40 + σ 32 8) 0 = 1 → 0 ≤ n0 ∧ n0 ≤ 99 → kPl σ → kAll σ → r = mQr (max 0 (mBel (mSum (kTF (kRho σ)) (σ 32 12).toNat + mSum (kTB (kRho σ)) (σ 32 12).toNat) (mSum (kTF (kRho σ)) (σ 32 12).toNat) (σ (40 + σ 32 7) 4) + mBel (mSum (kTF (kRho σ)) (σ 32 12).toNat + mSum (kTB (kRho σ)) (σ 32 12).toNat) (mSum (kTB (kRho σ)) (σ 32 12).toNat) (σ (40 + σ 32 8) 4) - 100)) (σ 32 11) n0.toNat) ∧ (∀ k : Int, k < 6 ∨ 14 < k → τ k = σ k)) : ∀ c : Int, 100 ≤ c → τ c = σ c := by
  exact fun c hc => p.2.2.2.2 c (by omega)
theorem fr_X7_home {σ τ : zS} {r : Int} {t0 sec pt : Int} (p : (¬ (σ (40 + σ 32 7) 0 = 1 ∧ σ (40 + σ 32 8) 0 = 1) → r = (-1000000000000000003)) ∧ (σ (40 + σ 32 7) 0 = 1 ∧ σ (40 + σ 32 8) 0 = 1 → ¬ ((0 ≤ t0 ∧ t0 ≤ 10) ∧ (0 ≤ sec ∧ sec ≤ 9999) ∧ 0 ≤ pt ∧ pt ≤ 1) → r = (-1000000000000000002)) ∧ (σ (40 + σ 32 7) 0 = 1 ∧ σ (40 + σ 32 8) 0 = 1 → (0 ≤ t0 ∧ t0 ≤ 10) ∧ (0 ≤ sec ∧ sec ≤ 9999) ∧ 0 ≤ pt ∧ pt ≤ 1 → ¬ (kPl σ ∧ kAll σ) → r = (-1000000000000000005)) ∧ (σ (40 + σ 32 7) 0 = 1 ∧ σ (40 + σ 32 8) 0 = 1 → (0 ≤ t0 ∧ t0 ≤ 10) ∧ (0 ≤ sec ∧ sec ≤ 9999) ∧ 0 ≤ pt ∧ pt ≤ 1 → kPl σ → kAll σ → r = if 12 < mSum (fun i => if σ 35 i = 5 then 1 else 0) (σ 32 12).toNat then (-1000000000000000004) else mFrac (if sec - kS (kRho σ) (-1) (σ 32 12).toNat < 0 then 0 else mSum (mChF (mSum (fun i => if σ 35 i = 5 then 1 else 0) (σ 32 12).toNat) t0) (min (mSum (fun i => if σ 35 i = 5 then 1 else 0) (σ 32 12).toNat) ((sec - kS (kRho σ) (-1) (σ 32 12).toNat) / 5) + 1).toNat) (10 ^ (mSum (fun i => if σ 35 i = 5 then 1 else 0) (σ 32 12).toNat).toNat) pt) ∧ (∀ k : Int, k < 6 ∨ 14 < k → τ k = σ k)) : ∀ c : Int, 100 ≤ c → τ c = σ c := by
  exact fun c hc => p.2.2.2.2 c (by omega)
theorem fr_X7_mean {σ τ : zS} {r : Int} {t0 pt : Int} (p : (¬ (σ (40 + σ 32 7) 0 = 1 ∧ σ (40 + σ 32 8) 0 = 1) → r = (-1000000000000000003)) ∧ (σ (40 + σ 32 7) 0 = 1 ∧ σ (40 + σ 32 8) 0 = 1 → ¬ (0 ≤ t0 ∧ t0 ≤ 10 ∧ 0 ≤ pt ∧ pt ≤ 1) → r = (-1000000000000000002)) ∧ (σ (40 + σ 32 7) 0 = 1 ∧ σ (40 + σ 32 8) 0 = 1 → 0 ≤ t0 ∧ t0 ≤ 10 ∧ 0 ≤ pt ∧ pt ≤ 1 → ¬ (kPl σ ∧ kAll σ) → r = (-1000000000000000005)) ∧ (σ (40 + σ 32 7) 0 = 1 ∧ σ (40 + σ 32 8) 0 = 1 → 0 ≤ t0 ∧ t0 ≤ 10 ∧ 0 ≤ pt ∧ pt ≤ 1 → kPl σ → kAll σ → r = mFrac (10 * kS (kRho σ) (-1) (σ 32 12).toNat + 5 * t0 * mSum (fun i => if σ 35 i = 5 then 1 else 0) (σ 32 12).toNat) 10 pt) ∧ (∀ k : Int, k < 6 ∨ 14 < k → τ k = σ k)) : ∀ c : Int, 100 ≤ c → τ c = σ c := by
  exact fun c hc => p.2.2.2.2 c (by omega)
theorem fr_X7_time {σ τ : zS} {r : Int} {rr so ef v : Int} (p : if ¬ (0 ≤ rr ∧ rr ≤ 3 ∧ σ (40 + rr) 0 = 1) then r = -1 ∧ τ = σ else if ¬ ((0 ≤ so ∧ so ≤ 4) ∧ (0 ≤ ef ∧ ef ≤ 4) ∧ 1 ≤ v ∧ v ≤ 300) then r = -2 ∧ τ = σ else if 6 ≤ σ 32 13 then r = -4 ∧ τ = σ else τ = mAddT σ rr so ef v ∧ r = σ 32 13 + 1) : ∀ c : Int, 100 ≤ c → τ c = σ c := by
  intro c hc
  repeat' split at p
  all_goals (obtain ⟨p1, p2⟩ := p)
  all_goals first
    | (rw [p2]; done)
    | (rw [p1]; unfold mCome; repeat (rw [zU_cell (by omega)]))
    | (rw [p1]; unfold mAddT; repeat (rw [zU_cell (by omega)]))
    | (rw [p1, zU_cell (by omega)]; unfold mTake; first | rfl | (funext j; first | rfl | (repeat (rw [if_neg (by omega)]))))
    | (rw [p1]; repeat (rw [zU_cell (by omega)]))
theorem fr_X7_forget {σ τ : zS} {r : Int}  (p : τ = zU σ 32 13 0 ∧ r = σ 32 13) : ∀ c : Int, 100 ≤ c → τ c = σ c := by
  intro c hc
  first | (rw [p.2]; done) | (rw [p.1]; repeat (rw [zU_cell (by omega)]))
theorem fr_X7_image_0 {σ τ : zS} {r : Int}  (p : r = 1 ∧ τ 2 0 = 1 ∧ τ 2 1 = σ 2 1 ∧ (∀ k : Int, k ≠ 2 → (k < 48 ∨ 59 < k) → τ k = σ k) ∧ (∀ j : Int, 7 ≤ j → j ≤ 13 → τ 48 j = σ 32 j) ∧ (∀ j : Int, 0 ≤ j → j < 24 → τ 50 j = σ 34 j) ∧ (∀ j : Int, 0 ≤ j → j < 24 → τ 51 j = σ 35 j) ∧ (∀ j : Int, 0 ≤ j → j < 6 → τ 52 j = σ 36 j) ∧ (∀ j : Int, 0 ≤ j → j < 6 → τ 53 j = σ 37 j) ∧ (∀ j : Int, 0 ≤ j → j < 6 → τ 54 j = σ 38 j) ∧ (∀ j : Int, 0 ≤ j → j < 6 → τ 55 j = σ 39 j) ∧ (∀ j : Int, 0 ≤ j → j ≤ 4 → τ 56 j = σ 40 j) ∧ (∀ j : Int, 0 ≤ j → j ≤ 4 → τ 57 j = σ 41 j) ∧ (∀ j : Int, 0 ≤ j → j ≤ 4 → τ 58 j = σ 42 j) ∧ (∀ j : Int, 0 ≤ j → j ≤ 4 → τ 59 j = σ 43 j)) : ∀ c : Int, 100 ≤ c → τ c = σ c := by
  exact fun c hc => p.2.2.2.1 c (by omega) (by omega)
theorem fr_X7_image_1 {σ τ : zS} {r : Int}  (p : r = 1 ∧ τ 2 1 = 1 ∧ τ 2 0 = σ 2 0 ∧ (∀ k : Int, k ≠ 2 → (k < 64 ∨ 75 < k) → τ k = σ k) ∧ (∀ j : Int, 7 ≤ j → j ≤ 13 → τ 64 j = σ 32 j) ∧ (∀ j : Int, 0 ≤ j → j < 24 → τ 66 j = σ 34 j) ∧ (∀ j : Int, 0 ≤ j → j < 24 → τ 67 j = σ 35 j) ∧ (∀ j : Int, 0 ≤ j → j < 6 → τ 68 j = σ 36 j) ∧ (∀ j : Int, 0 ≤ j → j < 6 → τ 69 j = σ 37 j) ∧ (∀ j : Int, 0 ≤ j → j < 6 → τ 70 j = σ 38 j) ∧ (∀ j : Int, 0 ≤ j → j < 6 → τ 71 j = σ 39 j) ∧ (∀ j : Int, 0 ≤ j → j ≤ 4 → τ 72 j = σ 40 j) ∧ (∀ j : Int, 0 ≤ j → j ≤ 4 → τ 73 j = σ 41 j) ∧ (∀ j : Int, 0 ≤ j → j ≤ 4 → τ 74 j = σ 42 j) ∧ (∀ j : Int, 0 ≤ j → j ≤ 4 → τ 75 j = σ 43 j)) : ∀ c : Int, 100 ≤ c → τ c = σ c := by
  exact fun c hc => p.2.2.2.1 c (by omega) (by omega)
theorem fr_X7_image_o {σ τ : zS} {r : Int} {n0 : Int} (p : r = -2 ∧ τ = σ) : ∀ c : Int, 100 ≤ c → τ c = σ c := by
  intro c hc
  first | (rw [p.2]; done) | (rw [p.1]; repeat (rw [zU_cell (by omega)]))
theorem fr_X7_restore_0 {σ τ : zS} {r : Int}  (h2 : σ 2 0 = 0 ∨ σ 2 0 = 1) (p : (σ 2 0 = 0 → r = -3 ∧ τ = σ) ∧ (σ 2 0 = 1 → r = 1 ∧ (∀ k : Int, (k < 32 ∨ 43 < k) → τ k = σ k) ∧ (∀ j : Int, 7 ≤ j → j ≤ 13 → τ 32 j = σ 48 j) ∧ (∀ j : Int, 0 ≤ j → j < 24 → τ 34 j = σ 50 j) ∧ (∀ j : Int, 0 ≤ j → j < 24 → τ 35 j = σ 51 j) ∧ (∀ j : Int, 0 ≤ j → j < 6 → τ 36 j = σ 52 j) ∧ (∀ j : Int, 0 ≤ j → j < 6 → τ 37 j = σ 53 j) ∧ (∀ j : Int, 0 ≤ j → j < 6 → τ 38 j = σ 54 j) ∧ (∀ j : Int, 0 ≤ j → j < 6 → τ 39 j = σ 55 j) ∧ (∀ j : Int, 0 ≤ j → j ≤ 4 → τ 40 j = σ 56 j) ∧ (∀ j : Int, 0 ≤ j → j ≤ 4 → τ 41 j = σ 57 j) ∧ (∀ j : Int, 0 ≤ j → j ≤ 4 → τ 42 j = σ 58 j) ∧ (∀ j : Int, 0 ≤ j → j ≤ 4 → τ 43 j = σ 59 j))) : ∀ c : Int, 100 ≤ c → τ c = σ c := by
  intro c hc
  rcases h2 with h2 | h2
  · rw [(p.1 h2).2]
  · exact (p.2 h2).2.1 c (by omega)
theorem fr_X7_restore_1 {σ τ : zS} {r : Int}  (h2 : σ 2 1 = 0 ∨ σ 2 1 = 1) (p : (σ 2 1 = 0 → r = -3 ∧ τ = σ) ∧ (σ 2 1 = 1 → r = 1 ∧ (∀ k : Int, (k < 32 ∨ 43 < k) → τ k = σ k) ∧ (∀ j : Int, 7 ≤ j → j ≤ 13 → τ 32 j = σ 64 j) ∧ (∀ j : Int, 0 ≤ j → j < 24 → τ 34 j = σ 66 j) ∧ (∀ j : Int, 0 ≤ j → j < 24 → τ 35 j = σ 67 j) ∧ (∀ j : Int, 0 ≤ j → j < 6 → τ 36 j = σ 68 j) ∧ (∀ j : Int, 0 ≤ j → j < 6 → τ 37 j = σ 69 j) ∧ (∀ j : Int, 0 ≤ j → j < 6 → τ 38 j = σ 70 j) ∧ (∀ j : Int, 0 ≤ j → j < 6 → τ 39 j = σ 71 j) ∧ (∀ j : Int, 0 ≤ j → j ≤ 4 → τ 40 j = σ 72 j) ∧ (∀ j : Int, 0 ≤ j → j ≤ 4 → τ 41 j = σ 73 j) ∧ (∀ j : Int, 0 ≤ j → j ≤ 4 → τ 42 j = σ 74 j) ∧ (∀ j : Int, 0 ≤ j → j ≤ 4 → τ 43 j = σ 75 j))) : ∀ c : Int, 100 ≤ c → τ c = σ c := by
  intro c hc
  rcases h2 with h2 | h2
  · rw [(p.1 h2).2]
  · exact (p.2 h2).2.1 c (by omega)
theorem fr_X7_restore_o {σ τ : zS} {r : Int} {n0 : Int} (p : r = -2 ∧ τ = σ) : ∀ c : Int, 100 ≤ c → τ c = σ c := by
  intro c hc
  first | (rw [p.2]; done) | (rw [p.1]; repeat (rw [zU_cell (by omega)]))
