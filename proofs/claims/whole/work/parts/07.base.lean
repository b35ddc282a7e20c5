-- ===== whole numbers: every int of a walk is iI z, every long jI z =====
def iI (z : Int) : Int32 := Int32.ofInt z
def jI (z : Int) : Int64 := Int64.ofInt z
abbrev R3 (z : Int) : Prop := -2147483648 ≤ z ∧ z < 2147483648
abbrev R6 (z : Int) : Prop := -9223372036854775808 ≤ z ∧ z < 9223372036854775808
theorem iI_toInt {z : Int} (h : R3 z) : (iI z).toInt = z := Int32.toInt_ofInt_of_le (by have := h.1; omega) (by have := h.2; omega)
theorem jI_toInt {z : Int} (h : R6 z) : (jI z).toInt = z := Int64.toInt_ofInt_of_le (by have := h.1; omega) (by have := h.2; omega)
theorem iI_add (x y : Int) : iI x + iI y = iI (x + y) := (Int32.ofInt_add x y).symm
theorem iI_sub (x y : Int) : iI x - iI y = iI (x - y) := (Int32.ofInt_sub x y).symm
theorem iI_mul (x y : Int) : iI x * iI y = iI (x * y) := (Int32.ofInt_mul x y).symm
theorem iI_neg (x : Int) : -iI x = iI (-x) := (Int32.ofInt_neg x).symm
theorem jI_add (x y : Int) : jI x + jI y = jI (x + y) := (Int64.ofInt_add x y).symm
theorem jI_sub (x y : Int) : jI x - jI y = jI (x - y) := (Int64.ofInt_sub x y).symm
theorem jI_mul (x y : Int) : jI x * jI y = jI (x * y) := (Int64.ofInt_mul x y).symm
theorem iI_of (x : Int32) : ∃ z : Int, R3 z ∧ x = iI z := ⟨x.toInt, ⟨Int32.le_toInt x, Int32.toInt_lt x⟩, (Int32.ofInt_toInt x).symm⟩
theorem jI_of (x : Int64) : ∃ z : Int, R6 z ∧ x = jI z := ⟨x.toInt, ⟨Int64.le_toInt x, Int64.toInt_lt x⟩, (Int64.ofInt_toInt x).symm⟩
theorem iI_inj {x y : Int} (hx : R3 x) (hy : R3 y) : iI x = iI y ↔ x = y := ⟨fun h => by have := congrArg Int32.toInt h; rwa [iI_toInt hx, iI_toInt hy] at this, fun h => by rw [h]⟩
theorem jI_inj {x y : Int} (hx : R6 x) (hy : R6 y) : jI x = jI y ↔ x = y := ⟨fun h => by have := congrArg Int64.toInt h; rwa [jI_toInt hx, jI_toInt hy] at this, fun h => by rw [h]⟩
theorem iI_lt {x y : Int} (hx : R3 x) (hy : R3 y) : iI x < iI y ↔ x < y := by rw [Int32.lt_iff_toInt_lt, iI_toInt hx, iI_toInt hy]
theorem iI_le {x y : Int} (hx : R3 x) (hy : R3 y) : iI x ≤ iI y ↔ x ≤ y := by rw [Int32.le_iff_toInt_le, iI_toInt hx, iI_toInt hy]
theorem jI_lt {x y : Int} (hx : R6 x) (hy : R6 y) : jI x < jI y ↔ x < y := by rw [Int64.lt_iff_toInt_lt, jI_toInt hx, jI_toInt hy]
theorem iI_nat (n : Nat) : iI (n : Int) = nI n := by unfold iI nI; exact Int32.ofInt_eq_ofNat
theorem iI_cl {z : Int} (h0 : 0 ≤ z) (h : z < 2147483648) : (iI z).toNatClampNeg = z.toNat := by
  show (iI z).toInt.toNat = z.toNat
  rw [iI_toInt ⟨by omega, h⟩]
theorem iI_in {z : Int} {n : Nat} (h0 : 0 ≤ z) (h : z < n) (hn : n < 2147483648) : vp_in (iI z) n := by
  rw [vp_in_iff, iI_toInt ⟨by omega, by omega⟩]
  exact ⟨h0, h⟩
theorem iI_div {x y : Int} (hx : 0 ≤ x) (hx2 : x < 2147483648) (hy : 0 < y) (hy2 : y < 2147483648) : iI x / iI y = iI (x / y) := by
  apply Int32.toInt_inj.mp
  have hd : x / y ≤ x := Int.ediv_le_self _ hx
  have hp : 0 ≤ x / y := Int.ediv_nonneg hx (Int.le_of_lt hy)
  rw [iI_toInt ⟨by omega, by omega⟩, Int32.toInt_div, iI_toInt ⟨by omega, hx2⟩, iI_toInt ⟨by omega, hy2⟩, Int.tdiv_eq_ediv_of_nonneg hx, Int.bmod_eq_of_le (by omega) (by omega)]
theorem iI_rem {x y : Int} (hx : 0 ≤ x) (hx2 : x < 2147483648) (hy : 0 < y) (hy2 : y < 2147483648) : iI x - iI x / iI y * iI y = iI (x % y) := by
  rw [iI_div hx hx2 hy hy2, iI_mul, iI_sub]
  congr 1
  have := Int.emod_def x y
  rw [Int.mul_comm] at this
  omega
theorem jI_div {x y : Int} (hx : 0 ≤ x) (hx2 : x < 9223372036854775808) (hy : 0 < y) (hy2 : y < 9223372036854775808) : jI x / jI y = jI (x / y) := by
  apply Int64.toInt_inj.mp
  have hd : x / y ≤ x := Int.ediv_le_self _ hx
  have hp : 0 ≤ x / y := Int.ediv_nonneg hx (Int.le_of_lt hy)
  rw [jI_toInt ⟨by omega, by omega⟩, Int64.toInt_div, jI_toInt ⟨by omega, hx2⟩, jI_toInt ⟨by omega, hy2⟩, Int.tdiv_eq_ediv_of_nonneg hx, Int.bmod_eq_of_le (by omega) (by omega)]
theorem jI_rem {x y : Int} (hx : 0 ≤ x) (hx2 : x < 9223372036854775808) (hy : 0 < y) (hy2 : y < 9223372036854775808) : jI x - jI x / jI y * jI y = jI (x % y) := by
  rw [jI_div hx hx2 hy hy2, jI_mul, jI_sub]
  congr 1
  have := Int.emod_def x y
  rw [Int.mul_comm] at this
  omega
theorem iI_j {x : Int} (h : R3 x) : (iI x).toInt64 = jI x := by
  apply Int64.toInt_inj.mp
  rw [Int32.toInt_toInt64, iI_toInt h, jI_toInt ⟨by have := h.1; omega, by have := h.2; omega⟩]
theorem jI_i (x : Int) : (jI x).toInt32 = iI x := by unfold jI iI; simp
-- ===== the one world: cells by number, what they hold by number and place =====
abbrev zS : Type := Int → Int → Int
def zU (σ : zS) (k j v : Int) : zS := fun a b => if a = k ∧ b = j then v else σ a b
theorem zU_same (σ : zS) (k j v : Int) : zU σ k j v k j = v := by simp [zU]
theorem zU_cell {σ : zS} {k j v a : Int} (h : a ≠ k) : zU σ k j v a = σ a := by funext b; simp [zU, h]
theorem zU_place {σ : zS} {k j v a b : Int} (h : b ≠ j) : zU σ k j v a b = σ a b := by simp [zU, h]
def zL : List Int := [0,1,2,3,4,5,6,7,8,9,10,11,12,13,14,15,16,17,18,19,20,21,22,23,24,32,33,34,35,36,37,38,39,40,41,42,43,48,49,50,51,52,53,54,55,56,57,58,59,64,65,66,67,68,69,70,71,72,73,74,75,100,101,102,103,104,105,106,107,108,109,110,111,112,113,114,115,116,117,118,119]
def zLen (k : Int) : Nat :=
  if k = 4 ∨ k = 110 then 110 else if k = 6 ∨ k = 7 ∨ k = 8 ∨ k = 9 ∨ k = 11 ∨ k = 12 ∨ k = 13 ∨ k = 14 then 24 else if k = 16 ∨ k = 17 ∨ k = 18 ∨ k = 19 then 25 else if k = 20 then 25 else if k = 21 ∨ k = 22 then 2100 else if k = 23 ∨ k = 24 then 21
  else if k = 34 ∨ k = 35 ∨ k = 50 ∨ k = 51 ∨ k = 66 ∨ k = 67 then 24 else if k < 100 then 6
  else if k = 101 ∨ k = 102 ∨ k = 103 ∨ k = 104 then 4 else if k = 105 then 24 else if k = 106 ∨ k = 107 ∨ k = 108 ∨ k = 109 then 6 else if k = 111 ∨ k = 112 ∨ k = 113 ∨ k = 114 then 24 else if k = 115 ∨ k = 116 then 2100 else if k = 117 then 25 else if k = 118 then 160 else 2
def zRid (k : Int) : Prop := (40 ≤ k ∧ k ≤ 43) ∨ (56 ≤ k ∧ k ≤ 59) ∨ (72 ≤ k ∧ k ≤ 75)
def zSet (k : Int) : Prop := k = 32 ∨ k = 48 ∨ k = 64
def zRdec (k : Int) : Decidable (zRid k) := by unfold zRid; infer_instance
def zRidB (k : Int) : Bool := (decide (40 ≤ k) && decide (k ≤ 43)) || (decide (56 ≤ k) && decide (k ≤ 59)) || (decide (72 ≤ k) && decide (k ≤ 75))
def zRefs (a : Int → Nat) (k : Int) : Nat → Option Nat := fun j => some (a (k + (j : Int)))
def zRefs16 (a : Int → Nat) (k : Int) : Nat → Option Nat := fun j => some (a (k + 16 * (j : Int)))
def sh (Y : Nat → ClassId) (a : Int → Nat) (k : Int) (s : Int → Int) : va_E :=
  if k = 0 then .inr (6, [.ref (a 32), .ref (a 1), .ref (a 2), .ref (a 3), .ref (a 5), .ref (a 10), .ref (a 15)])
  else if k = 1 then .inl (Y 3, 2, .inr (.inr (.inr (.inr (zRefs16 a 48)))))
  else if k = 2 ∨ k = 6 ∨ k = 119 then .inl (Y 1, (if k = 6 then 24 else 2), .inl (fun j => iI (s (j : Int))))
  else if k = 3 then .inr (0, [.ref (a 4), .int (iI (s 1))])
  else if k = 5 then .inr (1, [.ref (a 6), .ref (a 7), .ref (a 8), .ref (a 9)])
  else if k = 10 then .inr (2, [.ref (a 11), .ref (a 12), .ref (a 13), .ref (a 14), .int (iI (s 4)), .int (iI (s 5)), .int (iI (s 6)), .int (iI (s 7)), .int (iI (s 8))])
  else if k = 15 then .inr (4, [.int (iI (s 0)), .int (iI (s 1)), .ref (a 16), .ref (a 17), .ref (a 18), .ref (a 19), .int (iI (s 6)), .ref (a 20), .ref (a (s 8)), .ref (a (s 9)), .ref (a (s 10)), .ref (a (s 11)), .int (iI (s 12)), .int (iI (s 13)), .int (iI (s 14))])
  else if k = 32 ∨ k = 48 ∨ k = 64 then .inr (5, [.ref (a (k + 1)), .ref (a (k + 2)), .ref (a (k + 3)), .ref (a (k + 4)), .ref (a (k + 5)), .ref (a (k + 6)), .ref (a (k + 7)), .int (iI (s 7)), .int (iI (s 8)), .int (iI (s 9)), .int (iI (s 10)), .int (iI (s 11)), .int (iI (s 12)), .int (iI (s 13))])
  else if k = 33 ∨ k = 49 ∨ k = 65 then .inl (Y 2, 4, .inr (.inr (.inr (.inr (zRefs a (k + 7))))))
  else if zRidB k = true then .inr (3, [.int (iI (s 0)), .int (iI (s 1)), .int (iI (s 2)), .int (iI (s 3)), .int (iI (s 4))])
  else if k = 100 then .inr (7, [.int (iI (s 0)), .ref (a 101), .ref (a 102), .ref (a 103), .ref (a 104), .int (iI (s 5)), .int (iI (s 6)), .int (iI (s 7)), .int (iI (s 8)), .int (iI (s 9)), .ref (a 105), .int (iI (s 11)), .ref (a 106), .ref (a 107), .ref (a 108), .ref (a 109), .int (iI (s 16)), .ref (a 110), .int (iI (s 18)), .ref (a 111), .ref (a 112), .ref (a 113), .ref (a 114), .int (iI (s 23)), .int (iI (s 24)), .int (iI (s 25)), .int (iI (s 26)), .int (iI (s 27)), .int (iI (s 28)), .int (iI (s 29)), .int (iI (s 30)), .ref (a 115), .ref (a 116), .ref (a 117), .ref (a 118), .ref (a 119), .int (iI (s 36)), .int (iI (s 37))])
  else .inl (Y 0, zLen k, .inl (fun j => iI (s (j : Int))))
def inA (a : Int → Nat) : Nat → Prop := fun q => ∃ k, k ∈ zL ∧ q = a k
def zI (a : Int → Nat) : Prop := ∀ i j : Int, i ∈ zL → j ∈ zL → a i = a j → i = j
def zW (Y : Nat → ClassId) (a : Int → Nat) (σ : zS) : va_W := zL.map (fun k => (a k, sh Y a k (σ k)))
def GP (D : va_G) (Y : Nat → ClassId) (a : Int → Nat) (σ : zS) (H : Heap) : Prop := va_P D vwCl (zW Y a σ) H
def zT (Y : Nat → ClassId) : List (ClassId × FieldType) := [(Y 0, .int), (Y 1, .boolean), (Y 2, .object "TandemRide$Rider"), (Y 3, .object "TandemRide$Setup")]
theorem zL_nodup : zL.Nodup := by decide +kernel
theorem zL_inj {q n : Nat} {k : Int} (h1 : zL[q]? = some k) (h2 : zL[n]? = some k) : q = n := by
  exact List.getElem?_inj (List.getElem?_eq_some_iff.mp h1).1 zL_nodup |>.mp (h1.trans h2.symm)
theorem zW_at {Y : Nat → ClassId} {a : Int → Nat} {σ : zS} {k : Int} (h : k ∈ zL) : ∃ q : Nat, zL[q]? = some k ∧ (zW Y a σ)[q]? = some (a k, sh Y a k (σ k)) := by
  obtain ⟨q, hq⟩ := List.getElem?_of_mem h
  exact ⟨q, hq, by unfold zW; rw [List.getElem?_map, hq]; rfl⟩
theorem zW_of {Y : Nat → ClassId} {a : Int → Nat} {σ : zS} {n : Nat} {p : Nat × va_E} (h : (zW Y a σ)[n]? = some p) : ∃ k, zL[n]? = some k ∧ p = (a k, sh Y a k (σ k)) := by
  unfold zW at h
  rw [List.getElem?_map] at h
  cases hk : zL[n]? with
  | none => rw [hk] at h; cases h
  | some k => rw [hk] at h; exact ⟨k, rfl, (Option.some.inj h).symm⟩
theorem zD {Y : Nat → ClassId} {a : Int → Nat} (hI : zI a) (σ : zS) : va_D (inA a) (zW Y a σ) := by
  refine ⟨fun i j p q hi hj e => ?_, fun n p hn => ?_⟩
  · obtain ⟨k, hk, rfl⟩ := zW_of hi
    obtain ⟨k2, hk2, rfl⟩ := zW_of hj
    have he := hI k k2 (List.mem_of_getElem? hk) (List.mem_of_getElem? hk2) e
    subst he
    exact zL_inj hk hk2
  · obtain ⟨k, hk, rfl⟩ := zW_of hn
    exact ⟨k, List.mem_of_getElem? hk, rfl⟩
theorem zW_set {Y : Nat → ClassId} {a : Int → Nat} {σ σ' : zS} {q : Nat} {k : Int} {e : va_E} (hq : zL[q]? = some k) (he : sh Y a k (σ' k) = e) (ho : ∀ j, j ≠ k → σ' j = σ j) : (zW Y a σ).set q (a k, e) = zW Y a σ' := by
  apply List.ext_getElem?
  intro n
  rw [List.getElem?_set]
  by_cases h : q = n
  · subst h
    have hl : q < (zW Y a σ).length := by unfold zW; rw [List.length_map]; exact (List.getElem?_eq_some_iff.mp hq).1
    rw [if_pos rfl, if_pos hl]
    unfold zW
    rw [List.getElem?_map, hq]
    show some (a k, e) = some (a k, sh Y a k (σ' k))
    rw [he]
  · rw [if_neg h]
    unfold zW
    rw [List.getElem?_map, List.getElem?_map]
    cases hk : zL[n]? with
    | none => rfl
    | some j =>
      have hj : j ≠ k := fun z => h (zL_inj hq (by rw [hk, z]))
      show some (a j, sh Y a j (σ j)) = some (a j, sh Y a j (σ' j))
      rw [ho j hj]
def zNn (U : State) : Prop := va_Nw (.methodLinkNest RX7 26 yX1_init RX7) U ∧ va_Nw (.methodLinkNest RX7 33 yX2_init RX7) U ∧ va_Nw (.methodLinkNest RX7 40 yX3_init RX7) U ∧ va_Nw (.methodLinkNest RX2 31 yX7_isEffort RX7) U ∧ va_Nw (.methodLinkNest RX2 35 yX7_isWithin RX7) U ∧ va_Nw (.methodLinkNest RX5 57 yX7_mostTreads RX7) U ∧ va_Nw (.methodLinkNest RX6 58 yX4_init RX7) U ∧ va_Nw (.methodLinkNest RX6 69 yX7_isWithin RX7) U ∧ va_Nw (.methodLinkNest RX7 47 yX5_init RX7) U
theorem zNn.warm {s U : State} (hW : s.WarmedH U.vm) (h : zNn s) : zNn U := ⟨va_Nw.warmM hW h.1, va_Nw.warmM hW h.2.1, va_Nw.warmM hW h.2.2.1, va_Nw.warmM hW h.2.2.2.1, va_Nw.warmM hW h.2.2.2.2.1, va_Nw.warmM hW h.2.2.2.2.2.1, va_Nw.warmM hW h.2.2.2.2.2.2.1, va_Nw.warmM hW h.2.2.2.2.2.2.2.1, va_Nw.warmM hW h.2.2.2.2.2.2.2.2⟩
theorem zNn.same {s U : State} (hv : s.vm = U.vm) (h : zNn s) : zNn U := ⟨va_Nw.same rfl hv h.1, va_Nw.same rfl hv h.2.1, va_Nw.same rfl hv h.2.2.1, va_Nw.same rfl hv h.2.2.2.1, va_Nw.same rfl hv h.2.2.2.2.1, va_Nw.same rfl hv h.2.2.2.2.2.1, va_Nw.same rfl hv h.2.2.2.2.2.2.1, va_Nw.same rfl hv h.2.2.2.2.2.2.2.1, va_Nw.same rfl hv h.2.2.2.2.2.2.2.2⟩
def Cx (p : Program) (s : State) (m : MethodId) (args : Array Value) (c : Code) (cc : ByteArray) (own : String) (nL : Nat) (D : va_G) (Y : Nat → ClassId) (a : Int → Nat) : Prop :=
  p.tables.exec = Jvm.exec ∧ c.code = cc ∧ c.maxLocals = nL ∧ s.vm.findClass own = some m.cls ∧ (∀ w ∈ wsL_law, w.before args s = true) ∧ va_K D vwCl (zT Y) s ∧ zI a ∧ zNn s
def zPc (D : va_G) (Y : Nat → ClassId) (a : Int → Nat) (σ : zS) (av : List Value) : Array Value → State → Prop := va_Pc av (fun U => GP D Y a σ U.heap ∧ va_K D vwCl (zT Y) U ∧ zNn U)
def zSi (r : Int) : Array Value → State → Outcome → State → Prop := fun _ st o t => o = .returned (some (.int (iI r))) ∧ t.heap = st.heap
def zSl (r : Int) : Array Value → State → Outcome → State → Prop := fun _ st o t => o = .returned (some (.long (jI r))) ∧ t.heap = st.heap
def zSr (r : Nat) : Array Value → State → Outcome → State → Prop := fun _ st o t => o = .returned (some (.ref r)) ∧ t.heap = st.heap
def zQi (D : va_G) (Y : Nat → ClassId) (a : Int → Nat) (post : Int → zS → Prop) : Array Value → State → Outcome → State → Prop := fun _ st o t => (∃ (r : Int) (σ' : zS), o = .returned (some (.int (iI r))) ∧ post r σ' ∧ GP D Y a σ' t.heap) ∧ va_F (inA a) st t
def zQl (D : va_G) (Y : Nat → ClassId) (a : Int → Nat) (post : Int → zS → Prop) : Array Value → State → Outcome → State → Prop := fun _ st o t => (∃ (r : Int) (σ' : zS), o = .returned (some (.long (jI r))) ∧ post r σ' ∧ GP D Y a σ' t.heap) ∧ va_F (inA a) st t
def zQv (D : va_G) (Y : Nat → ClassId) (a : Int → Nat) (post : zS → Prop) : Array Value → State → Outcome → State → Prop := fun _ st o t => (∃ σ' : zS, o = .returned none ∧ post σ' ∧ GP D Y a σ' t.heap) ∧ va_F (inA a) st t
def zR (h : Nat) : Room := { frames := h, cells := 0, slots := 0, locals := 31 * h }
def zMet (l : Launch) (y : MethodName) (bytes : ByteArray) (maxL : Nat) (ret : Option FieldType) (h : Nat) (Pc : Array Value → State → Prop) (Qc : Array Value → State → Outcome → State → Prop) (free : Addr → Prop) : Prop := Met l y (.code y bytes maxL ret :: wsL_law) (zR h) Pc Qc 0 0 free
def zNo : Addr → Prop := fun _ => False
theorem zPc_blind {D : va_G} {Y : Nat → ClassId} {a : Int → Nat} {σ : zS} {av : List Value} : FrameBlind (zPc D Y a σ av) := fun b U g mk q => ⟨q.1, q.2.1, va_K.moved (u := U) (U := U.calling g mk b) (Vm.Alike.refl U.vm) q.2.2.1, zNn.same (s := U) (U := U.calling g mk b) rfl q.2.2.2⟩
-- kinds of cells
def zIA (Y : Nat → ClassId) (a : Int → Nat) (k : Int) (n : Nat) : Prop := k ∈ zL ∧ n < 2147483648 ∧ ∀ s, sh Y a k s = .inl (Y 0, n, .inl (fun j => iI (s (j : Int))))
def zZA (Y : Nat → ClassId) (a : Int → Nat) (k : Int) (n : Nat) : Prop := k ∈ zL ∧ n < 2147483648 ∧ ∀ s, sh Y a k s = .inl (Y 1, n, .inl (fun j => iI (s (j : Int))))
def zOb (Y : Nat → ClassId) (a : Int → Nat) (k : Int) (ci : Nat) : Prop := k ∈ zL ∧ ∀ s, ∃ fs, sh Y a k s = .inr (ci, fs)
theorem gA : GoodIn wsL_law wsL_law := goodIn_sub (fun _ h => h) (by decide +kernel)
theorem gA1 {c1 : Cond} {ws : List Cond} (h1 : c1 ∈ wsL_law) (h : GoodIn wsL_law ws) : GoodIn wsL_law (c1 :: ws) := fun w hw => (List.mem_cons.mp hw).elim (fun e => by rw [e]; exact gA c1 h1) (h w)
