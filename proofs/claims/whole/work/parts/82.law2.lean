/-! THE CLAIM OUT OF ONE WALK OF THE LAW'S BODY. Your part is whole_start (and what it stands on); all else here is the same for every law, but numbers. -/
def R_law : String := "TandemRideLaw"
def lw_P (b : Addr) (xs : List Int32) (args : Array Value) (s : State) : Prop := args = #[.ref b] ∧ s.IntsAt b xs ∧ xs.length ≤ 384 ∧ (Jvm.Cond.and given_1 narrow_1).before args s = true
def lw_Q (_ : Array Value) (s : State) (o : Outcome) (t : State) : Prop := o = .returned (some (.int 1)) ∧ Framed s o t [] 600000 7302250
def lw_Z (below : List Frame) (a : Array Value) (s : State) : State → Prop := fun t => ∃ o, t.status = .running ∧ Ended t below o ∧ lw_Q a s o t
/-- the law's own end, with 1 on the stack, nothing written that was there before, its room as the claim has it -/
theorem lw_ret {p : Program} {l : Launch} {e : Env} {s : State} {m : MethodId} {below : List Frame} {meth : Method} {c : Code} {b : Nat} (hx : p.tables.exec = Jvm.exec) (hb : c.code = code) (hr : meth.sig.returnType = ret) (hlocks : meth.locks = false) {pc : Nat} {H : Heap} {ls : Array Slot} (hdg : decode code pc = .ok (.ireturn, 1)) : W p l e room_1 s m #[Value.ref b] below meth c H [] 600000 7302250 (lw_Z below #[Value.ref b] s) (F0 m pc ls [.int 1]) := by
  intro T hT X
  obtain ⟨fs, hret, hrun, hended, hW, hframe⟩ := X.leave (v := some (.int 1)) (hlocks := hlocks) (fun h => by rw [hr] at h; cases h)
  have hmeth' : T.vm.method? m = some meth := X.method'
  refine ⟨T.setFrames fs, ?_, .returned (some (.int 1)), hrun, hended, rfl, ⟨_, rfl⟩, hW, hframe⟩
  jvm_step X.here [X.here.top, hx, hb, hdg, hmeth', hr, ret, narrow_b1]
  (try refine ⟨rfl, ?_⟩); (try refine ⟨rfl, ?_⟩)
  first | (intro acts; rw [hret _ acts rfl rfl rfl]) | rw [hret _ _ rfl rfl rfl]
  exact Steps.refl _
/-- what holds at the law's entry: the machine, the code, the tables' words (any of lw_tbl by 'hts w (by decide +kernel)'), the script of L ints xs at the cell b, what the Statement gives of the start (any of its parts by flat_of_before) -/
def lw_At (p : Program) (s : State) (m : MethodId) (meth : Method) (c : Code) (b L : Nat) (xs : Nat → Int32) : Prop :=
  p.tables.exec = Jvm.exec ∧ c.code = code ∧ meth.sig.returnType = ret ∧ c.maxLocals = 4 ∧ s.vm.findClass R_law = some m.cls ∧ (∀ w ∈ lw_tbl, w.before #[Value.ref b] s = true) ∧ va_X b L xs s s.heap ∧ b < s.heap.size ∧ meth.locks = false ∧ (Jvm.Cond.and given_1 narrow_1).before #[Value.ref b] s = true
theorem lw_and (x : Int32) : ∃ k : Nat, k ≤ 31 ∧ x &&& iI 31 = iI (k : Int) := by
  refine ⟨(x.toBitVec &&& 31#32).toNat, ?_, ?_⟩
  · rw [BitVec.toNat_and]
    exact Nat.and_le_right
  · apply Int32.toBitVec_inj.mp
    have h : (x.toBitVec &&& 31#32).toNat < 2 ^ 32 := (x.toBitVec &&& 31#32).isLt
    rw [iI_nat]
    show x.toBitVec &&& (iI 31).toBitVec = (Int32.ofNat _).toBitVec
    rw [Int32.toBitVec_ofNat']
    apply BitVec.eq_of_toNat_eq
    rw [BitVec.toNat_ofNat, Nat.mod_eq_of_lt h]
    rfl
set_option maxRecDepth 20000 in
set_option maxHeartbeats 4000000 in
theorem lw_head {p : Program} {l : Launch} {e : Env} {s : State} {m : MethodId} {below : List Frame} {meth : Method} {c : Code} {H : Heap} {locs : List Loc} {ls : Array Slot} {D : va_G} {Y : Nat → ClassId} {a : Int → Nat} {b L : Nat} {xs : Nat → Int32} {σ : zS} {i : Int} (C : lwC p s m c D Y a b L xs) (hge : ∀ q, inA a q → s.heap.size ≤ q) (hr : meth.sig.returnType = ret) (hlocks : meth.locks = false) (hl : lv_has ls 4 (lwV a b i)) (hi : 0 ≤ i ∧ i ≤ 400) (hJ : jInv σ) (hP : GP D Y a σ H) (hS : va_S (inA a) s.heap H locs) (K : i + 6 ≤ L → ∀ (σ1 : zS) (H1 : Heap) (locs1 : List Loc), jInv σ1 → GP D Y a σ1 H1 → va_S (inA a) s.heap H1 locs1 → W p l e room_1 s m #[Value.ref b] below meth c H1 locs1 600000 7302250 (lw_Z below #[Value.ref b] s) (F0 m 1115 ls [])) : W p l e room_1 s m #[Value.ref b] below meth c H locs 600000 7302250 (lw_Z below #[Value.ref b] s) (F0 m 18 ls []) := by
  have hL := C.2.2.2.2
  refine z_iload_n C.1 hl 0 rfl dL_law_18 ?_
  refine z_aload_n C.1 hl 3 rfl dL_law_19 ?_
  refine va_slen C.1.1 C.1.2.1 C.2.1 C.2.2.1 C.2.2.2.1 hS dL_law_20 ?_
  rw [show Int32.ofNat L = iI (L : Int) from (iI_nat L).symm]
  refine z_bipush C.1 (by decide +kernel) dL_law_21 ?_
  refine z_isub C.1 dL_law_23 ?_
  refine z_icmp_gt C.1 1121 dL_law_24 (by decide) ⟨by omega, by omega⟩ ⟨by omega, by omega⟩ (fun c1 => ?_) (fun c1 => ?_)
  · refine z_iconst C.1 dL_law_1121 ?_
    refine va_forget (fun q hq => hge _ (hS.2.2 q hq)) ?_
    exact lw_ret C.1.1 C.1.2.1 hr hlocks dL_law_1122
  · have h6 : i + 6 ≤ L := by omega
    refine z_aload_n C.1 hl 3 rfl dL_law_27 ?_
    refine z_iload_n C.1 hl 0 rfl dL_law_28 ?_
    refine va_sld C.1.1 C.1.2.1 C.2.1 C.2.2.1 C.2.2.2.1 hS (i := iI i) (iI_in (by omega) (by omega) (by omega)) dL_law_29 ?_
    refine z_bipush C.1 (by decide +kernel) dL_law_30 ?_
    refine lv_iand C.1.1 C.1.2.1 dL_law_32 ?_
    obtain ⟨k, hk, e⟩ := lw_and (xs (iI i).toNatClampNeg)
    rw [e]
    match k, hk with
    | 0, _ => exact lv_tableIn (off := 143) (tgt := 176) C.1.1 C.1.2.1 dL_law_33 (by decide +kernel) (by decide +kernel) (by decide +kernel) (by decide) (lw_c0 C hl ⟨hi.1, h6⟩ hJ hP hS (K h6))
    | 1, _ => exact lv_tableIn (off := 206) (tgt := 239) C.1.1 C.1.2.1 dL_law_33 (by decide +kernel) (by decide +kernel) (by decide +kernel) (by decide) (lw_c1 C hl ⟨hi.1, h6⟩ hJ hP hS (K h6))
    | 2, _ => exact lv_tableIn (off := 229) (tgt := 262) C.1.1 C.1.2.1 dL_law_33 (by decide +kernel) (by decide +kernel) (by decide +kernel) (by decide) (lw_c2 C hl ⟨hi.1, h6⟩ hJ hP hS (K h6))
    | 3, _ => exact lv_tableIn (off := 262) (tgt := 295) C.1.1 C.1.2.1 dL_law_33 (by decide +kernel) (by decide +kernel) (by decide +kernel) (by decide) (lw_c3 C hl ⟨hi.1, h6⟩ hJ hP hS (K h6))
    | 4, _ => exact lv_tableIn (off := 295) (tgt := 328) C.1.1 C.1.2.1 dL_law_33 (by decide +kernel) (by decide +kernel) (by decide +kernel) (by decide) (lw_c4 C hl ⟨hi.1, h6⟩ hJ hP hS (K h6))
    | 5, _ => exact lv_tableIn (off := 318) (tgt := 351) C.1.1 C.1.2.1 dL_law_33 (by decide +kernel) (by decide +kernel) (by decide +kernel) (by decide) (lw_c5 C hl ⟨hi.1, h6⟩ hJ hP hS (K h6))
    | 6, _ => exact lv_tableIn (off := 331) (tgt := 364) C.1.1 C.1.2.1 dL_law_33 (by decide +kernel) (by decide +kernel) (by decide +kernel) (by decide) (lw_c6 C hl ⟨hi.1, h6⟩ hJ hP hS (K h6))
    | 7, _ => exact lv_tableIn (off := 354) (tgt := 387) C.1.1 C.1.2.1 dL_law_33 (by decide +kernel) (by decide +kernel) (by decide +kernel) (by decide) (lw_c7 C hl ⟨hi.1, h6⟩ hJ hP hS (K h6))
    | 8, _ => exact lv_tableIn (off := 367) (tgt := 400) C.1.1 C.1.2.1 dL_law_33 (by decide +kernel) (by decide +kernel) (by decide +kernel) (by decide) (lw_c8 C hl ⟨hi.1, h6⟩ hJ hP hS (K h6))
    | 9, _ => exact lv_tableIn (off := 410) (tgt := 443) C.1.1 C.1.2.1 dL_law_33 (by decide +kernel) (by decide +kernel) (by decide +kernel) (by decide) (lw_c9 C hl ⟨hi.1, h6⟩ hJ hP hS (K h6))
    | 10, _ => exact lv_tableIn (off := 433) (tgt := 466) C.1.1 C.1.2.1 dL_law_33 (by decide +kernel) (by decide +kernel) (by decide +kernel) (by decide) (lw_c10 C hl ⟨hi.1, h6⟩ hJ hP hS (K h6))
    | 11, _ => exact lv_tableIn (off := 466) (tgt := 499) C.1.1 C.1.2.1 dL_law_33 (by decide +kernel) (by decide +kernel) (by decide +kernel) (by decide) (lw_c11 C hl ⟨hi.1, h6⟩ hJ hP hS (K h6))
    | 12, _ => exact lv_tableIn (off := 490) (tgt := 523) C.1.1 C.1.2.1 dL_law_33 (by decide +kernel) (by decide +kernel) (by decide +kernel) (by decide) (lw_c12 C hl ⟨hi.1, h6⟩ hJ hP hS (K h6))
    | 13, _ => exact lv_tableIn (off := 503) (tgt := 536) C.1.1 C.1.2.1 dL_law_33 (by decide +kernel) (by decide +kernel) (by decide +kernel) (by decide) (lw_c13 C hl ⟨hi.1, h6⟩ hJ hP hS (K h6))
    | 14, _ => exact lv_tableIn (off := 526) (tgt := 559) C.1.1 C.1.2.1 dL_law_33 (by decide +kernel) (by decide +kernel) (by decide +kernel) (by decide) (lw_c14 C hl ⟨hi.1, h6⟩ hJ hP hS (K h6))
    | 15, _ => exact lv_tableIn (off := 569) (tgt := 602) C.1.1 C.1.2.1 dL_law_33 (by decide +kernel) (by decide +kernel) (by decide +kernel) (by decide) (lw_c15 C hl ⟨hi.1, h6⟩ hJ hP hS (K h6))
    | 16, _ => exact lv_tableIn (off := 602) (tgt := 635) C.1.1 C.1.2.1 dL_law_33 (by decide +kernel) (by decide +kernel) (by decide +kernel) (by decide) (lw_c16 C hl ⟨hi.1, h6⟩ hJ hP hS (K h6))
    | 17, _ => exact lv_tableIn (off := 625) (tgt := 658) C.1.1 C.1.2.1 dL_law_33 (by decide +kernel) (by decide +kernel) (by decide +kernel) (by decide) (lw_c17 C hl ⟨hi.1, h6⟩ hJ hP hS (K h6))
    | 18, _ => exact lv_tableIn (off := 668) (tgt := 701) C.1.1 C.1.2.1 dL_law_33 (by decide +kernel) (by decide +kernel) (by decide +kernel) (by decide) (lw_c18 C hl ⟨hi.1, h6⟩ hJ hP hS (K h6))
    | 19, _ => exact lv_tableIn (off := 701) (tgt := 734) C.1.1 C.1.2.1 dL_law_33 (by decide +kernel) (by decide +kernel) (by decide +kernel) (by decide) (lw_c19 C hl ⟨hi.1, h6⟩ hJ hP hS (K h6))
    | 20, _ => exact lv_tableIn (off := 734) (tgt := 767) C.1.1 C.1.2.1 dL_law_33 (by decide +kernel) (by decide +kernel) (by decide +kernel) (by decide) (lw_c20 C hl ⟨hi.1, h6⟩ hJ hP hS (K h6))
    | 21, _ => exact lv_tableIn (off := 747) (tgt := 780) C.1.1 C.1.2.1 dL_law_33 (by decide +kernel) (by decide +kernel) (by decide +kernel) (by decide) (lw_c21 C hl ⟨hi.1, h6⟩ hJ hP hS (K h6))
    | 22, _ => exact lv_tableIn (off := 770) (tgt := 803) C.1.1 C.1.2.1 dL_law_33 (by decide +kernel) (by decide +kernel) (by decide +kernel) (by decide) (lw_c22 C hl ⟨hi.1, h6⟩ hJ hP hS (K h6))
    | 23, _ => exact lv_tableIn (off := 793) (tgt := 826) C.1.1 C.1.2.1 dL_law_33 (by decide +kernel) (by decide +kernel) (by decide +kernel) (by decide) (lw_c23 C hl ⟨hi.1, h6⟩ hJ hP hS (K h6))
    | 24, _ => exact lv_tableIn (off := 837) (tgt := 870) C.1.1 C.1.2.1 dL_law_33 (by decide +kernel) (by decide +kernel) (by decide +kernel) (by decide) (lw_c24 C hl ⟨hi.1, h6⟩ hJ hP hS (K h6))
    | 25, _ => exact lv_tableIn (off := 871) (tgt := 904) C.1.1 C.1.2.1 dL_law_33 (by decide +kernel) (by decide +kernel) (by decide +kernel) (by decide) (lw_c25 C hl ⟨hi.1, h6⟩ hJ hP hS (K h6))
    | 26, _ => exact lv_tableIn (off := 924) (tgt := 957) C.1.1 C.1.2.1 dL_law_33 (by decide +kernel) (by decide +kernel) (by decide +kernel) (by decide) (lw_c26 C hl ⟨hi.1, h6⟩ hJ hP hS (K h6))
    | 27, _ => exact lv_tableIn (off := 937) (tgt := 970) C.1.1 C.1.2.1 dL_law_33 (by decide +kernel) (by decide +kernel) (by decide +kernel) (by decide) (lw_c27 C hl ⟨hi.1, h6⟩ hJ hP hS (K h6))
    | 28, _ => exact lv_tableIn (off := 970) (tgt := 1003) C.1.1 C.1.2.1 dL_law_33 (by decide +kernel) (by decide +kernel) (by decide +kernel) (by decide) (lw_c28 C hl ⟨hi.1, h6⟩ hJ hP hS (K h6))
    | 29, _ => exact lv_tableIn (off := 1013) (tgt := 1046) C.1.1 C.1.2.1 dL_law_33 (by decide +kernel) (by decide +kernel) (by decide +kernel) (by decide) (lw_c29 C hl ⟨hi.1, h6⟩ hJ hP hS (K h6))
    | 30, _ => exact lv_tableIn (off := 1036) (tgt := 1069) C.1.1 C.1.2.1 dL_law_33 (by decide +kernel) (by decide +kernel) (by decide +kernel) (by decide) (lw_c30 C hl ⟨hi.1, h6⟩ hJ hP hS (K h6))
    | 31, _ => exact lv_tableIn (off := 1059) (tgt := 1092) C.1.1 C.1.2.1 dL_law_33 (by decide +kernel) (by decide +kernel) (by decide +kernel) (by decide) (lw_c31 C hl ⟨hi.1, h6⟩ hJ hP hS (K h6))
    | k + 32, h => exact absurd h (by omega)
set_option maxRecDepth 20000 in
set_option maxHeartbeats 4000000 in
theorem lw_loop {p : Program} {l : Launch} {e : Env} {s : State} {m : MethodId} {below : List Frame} {meth : Method} {c : Code} {D : va_G} {Y : Nat → ClassId} {a : Int → Nat} {b L : Nat} {xs : Nat → Int32} (C : lwC p s m c D Y a b L xs) (hge : ∀ q, inA a q → s.heap.size ≤ q) (hr : meth.sig.returnType = ret) (hlocks : meth.locks = false) : ∀ (n : Nat) (i : Int) (σ : zS) (H : Heap) (locs : List Loc) (ls : Array Slot), 0 ≤ i → i ≤ 400 → (L : Int) - 6 < i + 6 * n → jInv σ → GP D Y a σ H → va_S (inA a) s.heap H locs → lv_has ls 4 (lwV a b i) → W p l e room_1 s m #[Value.ref b] below meth c H locs 600000 7302250 (lw_Z below #[Value.ref b] s) (F0 m 18 ls []) := by
  have hL := C.2.2.2.2
  intro n
  induction n with
  | zero =>
    intro i σ H locs ls h0 h1 h2 hJ hP hS hl
    exact lw_head C hge hr hlocks hl ⟨h0, h1⟩ hJ hP hS (fun h6 => absurd h6 (by omega))
  | succ n ih =>
    intro i σ H locs ls h0 h1 h2 hJ hP hS hl
    refine lw_head C hge hr hlocks hl ⟨h0, h1⟩ hJ hP hS (fun h6 σ1 H1 locs1 hJ1 hP1 hS1 => ?_)
    refine z_iinc C.1 0 [0, 1, 2, 3] (lwV a b (i + 6)) hl rfl (by decide) rfl dL_law_1115 (fun ls hl => ?_)
    refine lv_goto (tgt := 18) C.1.1 C.1.2.1 dL_law_1118 (by decide) ?_
    exact ih (i + 6) σ1 H1 locs1 ls (by omega) (by omega) (by omega) hJ1 hP1 hS1 hl
theorem lw_ra {C : String} {A : Array Value} {U : State} (h : (Cond.arrayOver (.object C)).before A U = true) : ∃ cA, ArrOfT U cA (.object C) ∧ va_RA U cA (.object C) := by
  obtain ⟨comp, c, k, h1, h2, h3, h4, h5⟩ := Cond.arrayOver_spec h
  exact ⟨c, fun N z => ⟨(fun k h => by cases h), k, h3, comp, h4⟩, k, comp, h3, h4, h1, h5⟩
theorem lw_rp {ty : FieldType} {A : Array Value} {U : State} (h : (Cond.arrayClass ty).before A U = true) : ∃ cA, ArrOfT U cA ty ∧ U.vm.findClass ("[" ++ ty.toString) = some cA := by
  obtain ⟨cA, kA, comp, h1, h2, h3⟩ := Cond.arrayClass_spec h
  exact ⟨cA, fun N z => ⟨(fun k h => by cases h), kA, h2, comp, h3⟩, h1⟩
theorem lw_known {s : State} {args : Array Value} (hts : ∀ w ∈ lw_tbl, w.before args s = true) (h4 : (Cond.arrayOver (.object RX4)).before args s = true) (h6 : (Cond.arrayOver (.object RX6)).before args s = true) : ∃ (D : va_G) (Y : Nat → ClassId), va_K D vwCl (zT Y) s := by
  obtain ⟨c0, s0, k0⟩ := u_known (C := RX1) (T := TX1) (N := 2) (n := 2) hts inX1 (hts (.instantiable RX1 2) (wsL_law_in _ wd_20))
  obtain ⟨c1, s1, k1⟩ := u_known (C := RX2) (T := TX2) (N := 4) (n := 4) hts inX2 (hts (.instantiable RX2 4) (wsL_law_in _ wd_24))
  obtain ⟨c2, s2, k2⟩ := u_known (C := RX3) (T := TX3) (N := 9) (n := 9) hts inX3 (hts (.instantiable RX3 9) (wsL_law_in _ wd_28))
  obtain ⟨c3, s3, k3⟩ := u_known (C := RX4) (T := TX4) (N := 5) (n := 5) hts inX4 (hts (.instantiable RX4 5) (wsL_law_in _ wd_55))
  obtain ⟨c4, s4, k4⟩ := u_known (C := RX5) (T := TX5) (N := 15) (n := 15) hts inX5 (hts (.instantiable RX5 15) (wsL_law_in _ wd_32))
  obtain ⟨c5, s5, k5⟩ := u_known (C := RX6) (T := TX6) (N := 14) (n := 14) hts inX6 (hts (.instantiable RX6 14) (wsL_law_in _ wd_13))
  obtain ⟨c6, s6, k6⟩ := u_known (C := RX7) (T := TX7) (N := 7) (n := 7) hts inX7 (hts (.instantiable RX7 7) (wsL_law_in _ wd_1))
  obtain ⟨c7, s7, k7⟩ := u_known (C := RX8) (T := TX8) (N := 38) (n := 38) hts inX8 (hts (.instantiable RX8 38) (wsL_law_in _ wd_4))
  obtain ⟨y0, a0, b0⟩ := lw_rp (hts (.arrayClass .int) (wsL_law_in _ wd_41))
  obtain ⟨y1, a1, b1⟩ := lw_rp (hts (.arrayClass .boolean) (wsL_law_in _ wd_17))
  obtain ⟨y2, a2, b2⟩ := lw_ra h4
  obtain ⟨y3, a3, b3⟩ := lw_ra h6
  refine ⟨(fun k => if k = 0 then c0 else if k = 1 then c1 else if k = 2 then c2 else if k = 3 then c3 else if k = 4 then c4 else if k = 5 then c5 else if k = 6 then c6 else c7, fun k => if k = 0 then s0 else if k = 1 then s1 else if k = 2 then s2 else if k = 3 then s3 else if k = 4 then s4 else if k = 5 then s5 else if k = 6 then s6 else s7), (fun k => if k = 0 then y0 else if k = 1 then y1 else if k = 2 then y2 else y3), ?_, ?_⟩
  · intro k q hq
    match k, hq with
    | 0, hq => cases hq; exact k0
    | 1, hq => cases hq; exact k1
    | 2, hq => cases hq; exact k2
    | 3, hq => cases hq; exact k3
    | 4, hq => cases hq; exact k4
    | 5, hq => cases hq; exact k5
    | 6, hq => cases hq; exact k6
    | 7, hq => cases hq; exact k7
    | k + 8, hq => simp [vwCl] at hq
  · intro k q hq
    match k, hq with
    | 0, hq => cases hq; exact ⟨a0, b0⟩
    | 1, hq => cases hq; exact ⟨a1, b1⟩
    | 2, hq => cases hq; exact ⟨a2, b2⟩
    | 3, hq => cases hq; exact ⟨a3, b3⟩
    | k + 4, hq => simp [zT] at hq
