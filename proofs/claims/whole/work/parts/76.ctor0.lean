-- ===== constructors: the cells made so far, in a list; then the one world =====
def kz : Int → Int := fun _ => 0
def k46 : Int → Int := fun j => if j = 0 then 46 else 0
abbrev kI (Y : Nat → ClassId) (n : Nat) : va_E := .inl (Y 0, n, .inl (fun j => iI (kz (j : Int))))
abbrev kJ (Y : Nat → ClassId) (n : Nat) : va_E := .inl (Y 0, n, .inl (fun j => iI (k46 (j : Int))))
abbrev kZ (Y : Nat → ClassId) (n : Nat) : va_E := .inl (Y 1, n, .inl (fun j => iI (kz (j : Int))))
abbrev ykN (Y : Nat → ClassId) (t n : Nat) (f : Nat → Option Nat) : va_E := .inl (Y t, n, .inr (.inr (.inr (.inr f))))
def ykA : Int → Nat := fun k => k.toNat
theorem ykA_I : zI ykA := by
  intro i j hi hj h
  have p : ∀ k ∈ zL, 0 ≤ k := by decide
  have a := p i hi
  have b := p j hj
  unfold ykA at h
  omega
def kNn (U : State) : Prop := zNn U ∧ va_AO RX4 U ∧ va_AO RX6 U
theorem kNn.warm {s U : State} (hW : s.WarmedH U.vm) (h : kNn s) : kNn U := ⟨zNn.warm hW h.1, h.2.1.moved hW.alike, h.2.2.moved hW.alike⟩
def kB (D : va_G) (Y : Nat → ClassId) (ws : va_W) (sz : Nat) (U : State) : Prop := U.heap.size = sz ∧ va_P D vwCl ws U.heap ∧ va_K D vwCl (zT Y) U ∧ va_D (fun _ => True) ws ∧ kNn U
def kPc (D : va_G) (Y : Nat → ClassId) (av : List Value) (ws : va_W) (sz : Nat) : Array Value → State → Prop := va_Pc av (kB D Y ws sz)
def ykQ (B : (Nat → Prop) → Heap → Prop) (A : Nat → Prop) : Array Value → State → Outcome → State → Prop := va_Qv (fun _ : Unit => True) (fun _ t => B A t.heap) A
def kRm (h c sl : Nat) : Room := { frames := h, cells := c, slots := sl, locals := 31 * h }
def kMet (l : Launch) (y : MethodName) (cc : ByteArray) (maxL h mc ms : Nat) (D : va_G) (Y : Nat → ClassId) (av : List Value) (ws : va_W) (sz : Nat) (B : (Nat → Prop) → Heap → Prop) : Prop := Met l y (.code y cc maxL none :: wsL_law) (kRm h mc ms) (kPc D Y av ws sz) (ykQ B (va_A ws sz)) mc ms (va_A ws sz)
theorem kPc_blind {D : va_G} {Y : Nat → ClassId} {av : List Value} {ws : va_W} {sz : Nat} : FrameBlind (kPc D Y av ws sz) := fun b U g mk q => ⟨q.1, q.2.1, q.2.2.1, va_K.moved (u := U) (U := U.calling g mk b) (Vm.Alike.refl U.vm) q.2.2.2.1, q.2.2.2.2.1, zNn.same (s := U) (U := U.calling g mk b) rfl q.2.2.2.2.2.1, va_AO.moved (u := U) (U := U.calling g mk b) (Vm.Alike.refl U.vm) q.2.2.2.2.2.2.1, va_AO.moved (u := U) (U := U.calling g mk b) (Vm.Alike.refl U.vm) q.2.2.2.2.2.2.2⟩
def KC (p : Program) (s : State) (m : MethodId) (args : Array Value) (c : Code) (cc : ByteArray) (own : String) (nL : Nat) (D : va_G) (Y : Nat → ClassId) : Prop := Cx p s m args c cc own nL D Y ykA ∧ va_AO RX4 s ∧ va_AO RX6 s
theorem k_start {l : Launch} {y : MethodName} {cc : ByteArray} {maxL h mc ms : Nat} {av : List Value} {D : va_G} {Y : Nat → ClassId} {ws : va_W} {sz : Nat} {B : (Nat → Prop) → Heap → Prop} (hy : plainName y.cls = true) (hlen : (lg_sl av).length ≤ maxL)
    (body : ∀ (p : Program) (e : Env) (s : State) (m : MethodId) (below : List Frame) (meth : Method) (c : Code) (ls : Array Slot) (A : Nat → Prop), KC p s m av.toArray c cc y.cls maxL D Y → meth.name = y.name → meth.sig.returnType = none → meth.locks = false → lv_has ls maxL (lv_args 0 av) → va_P D vwCl ws s.heap → va_D A ws → (∀ q, s.heap.size ≤ q → A q) → W p l e (kRm h mc ms) s m av.toArray below meth c s.heap [] 0 0 (MQ below (ykQ B A) av.toArray s mc ms A) (F0 m 0 ls [])) : kMet l y cc maxL h mc ms D Y av ws sz B := by
  refine Met.ofW (cc := cc) (maxL := maxL) (ret := none) hy rfl ?_
  intro p e s m args below meth c s₁ B1 hml hv
  obtain ⟨rfl, hsz, hP, hK, hD0, hN⟩ := hv
  subst hsz
  have hl := lv_entry av (n := maxL) hlen
  rw [lg_entry_eq]
  exact body p e s m below meth c _ _ ⟨⟨B1.exec, B1.bytes, hml, findClass_of_methodNamed B1.named, fun w hw => atoms_spec (ws := .code y cc maxL none :: wsL_law) B1.pre w (List.mem_cons_of_mem _ hw), hK, ykA_I, hN.1⟩, hN.2⟩ (name_of_methodNamed B1.named B1.method).1 B1.returns B1.notSynchronized hl hP hD0.self (fun q h => Or.inr h)
theorem k_ra {U : State} {c1 c2 : ClassId} {ty : FieldType} (h1 : va_RA U c1 ty) (h2 : va_RA U c2 ty) : c1 = c2 := by
  cases ty <;> first
    | exact Option.some.inj (h1.symm.trans h2)
    | (obtain ⟨_, _, _, _, _, g1⟩ := h1; obtain ⟨_, _, _, _, _, g2⟩ := h2; exact Option.some.inj (g1.symm.trans g2))
theorem k_cls {D : va_G} {tys : List (ClassId × FieldType)} {cA cB : ClassId} {ty : FieldType} {s : State} (hK : va_K D vwCl (tys ++ [(cA, ty)]) s) (i j : Nat) (hi : (tys ++ [(cA, ty)])[i]? = some (cA, ty)) (hj : (tys ++ [(cA, ty)])[j]? = some (cB, ty)) : cA = cB := k_ra (hK.2 i _ hi).2 (hK.2 j _ hj).2
theorem k_sub {D : va_G} {cl : List vw_C} {ws wc : va_W} {H : Heap} (hP : va_P D cl ws H) (is : List Nat) (hC : is.map (fun i => ws[i]?) = wc.map some) : va_P D cl wc H := by
  intro k q hk
  have h1 : (is.map (fun i => ws[i]?))[k]? = some (some q) := by rw [hC, List.getElem?_map, hk]; rfl
  rw [List.getElem?_map] at h1
  cases hi : is[k]? with
  | none => rw [hi] at h1; cases h1
  | some i => rw [hi] at h1; exact hP i q (Option.some.inj h1)
def kLi (own : String) (ix : Nat) (y : MethodName) (bytes : ByteArray) (maxL n : Nat) : Prop := GoodIn wsL_law (.code y bytes maxL none :: wsL_law) ∧ Cond.initialized y.cls ∈ wsL_law ∧ Cond.instanceMethod y ∈ wsL_law ∧ y.name = "<init>" ∧ (y.cls ≠ "java/lang/invoke/MethodHandle" ∧ y.cls ≠ "java/lang/invoke/VarHandle" ∧ (parseMethodDescriptor y.desc).map (fun d => d.parameters.length) = some n) ∧ Cond.methodLink own ix y ∈ wsL_law
def kLx (own : String) (ix : Nat) (y : MethodName) (bytes : ByteArray) (maxL n : Nat) : Prop := GoodIn wsL_law (.code y bytes maxL none :: wsL_law) ∧ Cond.initialized y.cls ∈ wsL_law ∧ Cond.instanceMethod y ∈ wsL_law ∧ y.name = "<init>" ∧ (y.cls ≠ "java/lang/invoke/MethodHandle" ∧ y.cls ≠ "java/lang/invoke/VarHandle" ∧ (parseMethodDescriptor y.desc).map (fun d => d.parameters.length) = some n) ∧ ∀ s, zNn s → va_Nw (.methodLinkNest own ix y RX7) s
section KROWS
variable {p : Program} {l : Launch} {e : Env} {R : Room} {s : State} {m : MethodId} {args : Array Value} {below : List Frame} {meth : Method} {c : Code} {H : Heap} {locs : List Loc} {cells slots : Nat} {Q : State → Prop} {cc : ByteArray} {pc : Nat} {ls : Array Slot} {rest : List Value} {own : String} {nL : Nat} {D : va_G} {Y : Nat → ClassId} {ws : va_W} {A0 : Nat → Prop} {H0 : Heap}
theorem k_obj (C : KC p s m args c cc own nL D Y) {idx a : Nat} (hlink : Cond.methodLink own idx objectInit ∈ wsL_law) (hsz : ls.size = nL) (hR : 1 ≤ R.frames ∧ 31 ≤ R.locals) (hd : decode cc pc = .ok (.invokespecial idx, 3)) (k : W p l e R s m args below meth c H locs cells slots Q (F0 m (pc + 3) ls [])) : W p l e R s m args below meth c H locs cells slots Q (F0 m pc ls [.ref a]) :=
  W.objInit C.1.1 C.1.2.1 C.1.2.2.2.1 (C.1.2.2.2.2.1 _ hlink) (C.1.2.2.2.2.1 _ wd_10) (C.1.2.2.2.2.1 _ wd_11) rfl (by rw [C.1.2.2.1]; exact hsz) rfl hd hR.1 (Nat.le_trans (Nat.le_of_ble_eq_true rfl : _ ≤ 31) hR.2) (W.eq (g2 := F0 m (pc + 3) ls []) rfl k)
theorem k_newi (C : KC p s m args c cc own nL D Y) (hP : va_P D vwCl ws H) (hD : va_D A0 ws) (hS : va_S A0 H0 H locs) (hA : ∀ q, H0.size ≤ q → A0 q) {z : Int} (n : Nat) (hz : z = (n : Int)) (hn : n ≤ 3000) (hc : cells + 1 ≤ R.cells) (hs : slots + n ≤ R.slots) (hdg : decode cc pc = .ok (.newarray .int, 2)) (k : ∀ (q : Nat) (H1 : Heap), va_P D vwCl (ws ++ [(q, kI Y n)]) H1 → va_D A0 (ws ++ [(q, kI Y n)]) → va_S A0 H0 H1 locs → W p l e R s m args below meth c H1 locs (cells + 1) (slots + n) Q (F0 m (pc + 2) ls (.ref q :: rest))) : W p l e R s m args below meth c H locs cells slots Q (F0 m pc ls (.int (iI z) :: rest)) := by
  subst hz
  refine va_newa (atype := .int) (ty := .int) (N' := n) (a0 := (n, .inl (fun j => iI (kz (j : Int))))) C.1.1 C.1.2.1 (C.1.2.2.2.2.1 _ wd_41) rfl C.1.2.2.2.2.2.1 hP hD hS hA (fun _ => rfl) (fun h => ?_) (iI_cl (by omega) (by omega)) (by show n * 4 ≤ 536870912; omega) hc hs hdg (fun q cA H1 hK1 hP1 hD1 hS1 => ?_)
  · have h : iI (n : Int) < iI 0 := h
    rw [iI_lt ⟨by omega, by omega⟩ zR3_0] at h
    omega
  · have e : cA = Y 0 := k_cls hK1 4 0 rfl rfl
    subst e
    exact k q H1 hP1 hD1 hS1
theorem k_newz (C : KC p s m args c cc own nL D Y) (hP : va_P D vwCl ws H) (hD : va_D A0 ws) (hS : va_S A0 H0 H locs) (hA : ∀ q, H0.size ≤ q → A0 q) {z : Int} (n : Nat) (hz : z = (n : Int)) (hn : n ≤ 3000) (hc : cells + 1 ≤ R.cells) (hs : slots + n ≤ R.slots) (hdg : decode cc pc = .ok (.newarray .boolean, 2)) (k : ∀ (q : Nat) (H1 : Heap), va_P D vwCl (ws ++ [(q, kZ Y n)]) H1 → va_D A0 (ws ++ [(q, kZ Y n)]) → va_S A0 H0 H1 locs → W p l e R s m args below meth c H1 locs (cells + 1) (slots + n) Q (F0 m (pc + 2) ls (.ref q :: rest))) : W p l e R s m args below meth c H locs cells slots Q (F0 m pc ls (.int (iI z) :: rest)) := by
  subst hz
  refine va_newa (atype := .boolean) (ty := .boolean) (N' := n) (a0 := (n, .inl (fun j => iI (kz (j : Int))))) C.1.1 C.1.2.1 (C.1.2.2.2.2.1 _ wd_17) rfl C.1.2.2.2.2.2.1 hP hD hS hA (fun _ => rfl) (fun h => ?_) (iI_cl (by omega) (by omega)) (by show n * 1 ≤ 536870912; omega) hc hs hdg (fun q cA H1 hK1 hP1 hD1 hS1 => ?_)
  · have h : iI (n : Int) < iI 0 := h
    rw [iI_lt ⟨by omega, by omega⟩ zR3_0] at h
    omega
  · have e : cA = Y 1 := k_cls hK1 4 1 rfl rfl
    subst e
    exact k q H1 hP1 hD1 hS1
theorem k_newq (C : KC p s m args c cc own nL D Y) (hP : va_P D vwCl ws H) (hD : va_D A0 ws) (hS : va_S A0 H0 H locs) (hA : ∀ q, H0.size ≤ q → A0 q) (Cn : String) {ix : Nat} (t : Nat) {z : Int} (n : Nat) (hz : z = (n : Int)) (hn : n ≤ 3000) (hl : Cond.classLink own ix Cn ∈ wsL_law) (ho : va_AO Cn s) (ht : (zT Y ++ [(Y t, FieldType.object Cn)])[t]? = some (Y t, FieldType.object Cn)) (ht4 : t < 4) (hc : cells + 1 ≤ R.cells) (hs : slots + n ≤ R.slots) (hdg : decode cc pc = .ok (.anewarray ix, 3)) (k : ∀ (q : Nat) (H1 : Heap), va_P D vwCl (ws ++ [(q, ykN Y t n (fun _ => none))]) H1 → va_D A0 (ws ++ [(q, ykN Y t n (fun _ => none))]) → va_S A0 H0 H1 locs → W p l e R s m args below meth c H1 locs (cells + 1) (slots + n) Q (F0 m (pc + 3) ls (.ref q :: rest))) : W p l e R s m args below meth c H locs cells slots Q (F0 m pc ls (.int (iI z) :: rest)) := by
  subst hz
  refine va_newq (N' := n) C.1.1 C.1.2.1 C.1.2.2.2.1 (C.1.2.2.2.2.1 _ hl) ho C.1.2.2.2.2.2.1 hP hD hS hA (fun h => ?_) (iI_cl (by omega) (by omega)) (by omega) hc hs hdg (fun q cA H1 hK1 hP1 hD1 hS1 => ?_)
  · have h : iI (n : Int) < iI 0 := h
    rw [iI_lt ⟨by omega, by omega⟩ zR3_0] at h
    omega
  · have e : cA = Y t := k_cls hK1 4 t rfl (by
      rw [List.getElem?_append_left (by exact ht4)] at ht ⊢
      exact ht)
    subst e
    exact k q H1 hP1 hD1 hS1
theorem k_ast (C : KC p s m args c cc own nL D Y) (hP : va_P D vwCl ws H) (hD : va_D A0 ws) (hS : va_S A0 H0 H locs) (q0 : Nat) {a n : Nat} (ha : ws[q0]? = some (a, kI Y n)) (hn : 0 < n) (hdg : decode cc pc = .ok (.iastore, 1)) (k : ∀ (H1 : Heap) (locs1 : List Loc), va_P D vwCl (ws.set q0 (a, kJ Y n)) H1 → va_D A0 (ws.set q0 (a, kJ Y n)) → va_S A0 H0 H1 locs1 → W p l e R s m args below meth c H1 locs1 cells slots Q (F0 m (pc + 1) ls rest)) : W p l e R s m args below meth c H locs cells slots Q (F0 m pc ls (.int (iI 46) :: .int (iI 0) :: .ref a :: rest)) := by
  refine va_iast C.1.1 C.1.2.1 C.1.2.2.2.2.2.1 hP hD hS q0 0 ha rfl (i := iI 0) (x := iI 46) ?_ hdg (fun H1 locs1 h1 h2 h3 => ?_)
  · show vp_in (0 : Int32) n
    refine fun h => ?_
    rcases h with h | h
    · exact absurd h (by decide)
    · exact absurd h (by show ¬ n ≤ 0; omega)
  · have e : upd (fun j : Nat => iI (kz (j : Int))) (iI 0).toNatClampNeg (iI 46) = fun j : Nat => iI (k46 (j : Int)) := by
      funext j
      rw [iI_cl (by decide) (by decide)]
      unfold upd k46
      by_cases h : j = 0
      · rw [if_pos (show j = Int.toNat 0 from h), if_pos (by omega)]
      · rw [if_neg (show ¬ j = Int.toNat 0 from h), if_neg (by omega)]; rfl
    rw [e] at h1 h2
    exact k H1 locs1 h1 h2 h3
theorem k_astq (C : KC p s m args c cc own nL D Y) (hP : va_P D vwCl ws H) (hD : va_D A0 ws) (hS : va_S A0 H0 H locs) (q0 t0 qk ci i : Nat) {a n v : Nat} {cA : ClassId} {r : vw_C} {vs : List Value} {f : Nat → Option Nat} {z : Int} (hz : z = (i : Int)) (ha : ws[q0]? = some (a, .inl (cA, n, .inr (.inr (.inr (.inr f)))))) (ht : (zT Y)[t0]? = some (cA, .object r.1)) (hv : ws[qk]? = some (v, .inr (ci, vs))) (hc : vwCl[ci]? = some r) (hin : i < n) (hn : n ≤ 3000) (hdg : decode cc pc = .ok (.aastore, 1)) (k : ∀ (H1 : Heap) (locs1 : List Loc), va_P D vwCl (ws.set q0 (a, .inl (cA, n, .inr (.inr (.inr (.inr (va_up f i (some v)))))))) H1 → va_D A0 (ws.set q0 (a, .inl (cA, n, .inr (.inr (.inr (.inr (va_up f i (some v)))))))) → va_S A0 H0 H1 locs1 → W p l e R s m args below meth c H1 locs1 cells slots Q (F0 m (pc + 1) ls rest)) : W p l e R s m args below meth c H locs cells slots Q (F0 m pc ls (.ref v :: .int (iI z) :: .ref a :: rest)) := by
  subst hz
  refine va_astq C.1.1 C.1.2.1 C.1.2.2.2.2.2.1 hP hD hS q0 t0 qk ci ha ht hv hc (i := iI (i : Int)) (iI_in (by omega) (by omega) (by omega)) hdg (fun H1 locs1 h1 h2 h3 => ?_)
  have e : (iI (i : Int)).toNatClampNeg = i := iI_cl (by omega) (by omega)
  rw [e] at h1 h2
  exact k H1 locs1 h1 h2 h3
theorem k_callI (C : KC p s m args c cc own nL D Y) (hP : va_P D vwCl ws H) (hD : va_D A0 ws) (hS : va_S A0 H0 H locs) (hA : ∀ q, H0.size ≤ q → A0 q) {y : MethodName} {bytes : ByteArray} {maxL n ix h mc ms b : Nat} {wc wr : va_W} {As st0 : List Value} {B : (Nat → Prop) → Heap → Prop} (isC isR : List Nat) (hC : isC.map (fun i => ws[i]?) = wc.map some) (hn1 : va_nd isC = true) (hR1 : isR.map (fun i => ws[i]?) = wr.map some) (hn2 : va_nd isR = true) (hdis : ∀ i ∈ isR, i ∉ isC) (hlk : kLi own ix y bytes maxL n) (hM : ∀ sz, kMet l y bytes maxL h mc ms D Y (.ref b :: As) wc sz B) (hn : As.length = n) (hsz : ls.size = nL) (hst : st0 = As.reverse ++ .ref b :: rest) (hcat : (rest.map fun v => v.category).sum ≤ 8) (hR : h + 1 ≤ R.frames ∧ 8 + (maxL + 11) + 31 * h ≤ R.locals) (hc : cells + mc ≤ R.cells ∧ slots + ms ≤ R.slots) (hdg : decode cc pc = .ok (.invokespecial ix, 3))
    (k : ∀ (H1 : Heap) (locs1 : List Loc) (A1 : Nat → Prop), B A1 H1 → (∀ w1, va_P D vwCl w1 H1 → va_D A1 w1 → va_P D vwCl (wr ++ w1) H1 ∧ va_D A0 (wr ++ w1)) → va_S A0 H0 H1 locs1 → W p l e R s m args below meth c H1 locs1 (cells + mc) (slots + ms) Q (F0 m (pc + 3) ls rest)) : W p l e R s m args below meth c H locs cells slots Q (F0 m pc ls st0) := by
  have hPc := k_sub hP isC hC
  have hDc := hD.sub isC hn1 hC
  have hFc := va_free (wc := wc) hD hS hA isC hC
  refine va_callv (va_runI ⟨C.1.1, C.1.2.1, C.1.2.2.1, C.1.2.2.2.1, C.1.2.2.2.2.1⟩ (hM H.size) (cwI n C.1.2.2.2.2.1 hlk.1 rfl rfl rfl (C.1.2.2.2.2.1 _ hlk.2.1) (C.1.2.2.2.2.1 _ hlk.2.2.2.2.2) (C.1.2.2.2.2.1 _ hlk.2.2.1) hlk.2.2.2.1 hlk.2.2.2.2.1 hR) ⟨kPc_blind, fun U hU hW => ⟨rfl, by rw [hU], by rw [hU]; exact hPc, va_K.moved hW.alike C.1.2.2.2.2.2.1, hDc.weaken (fun _ _ _ _ => trivial), kNn.warm hW ⟨C.1.2.2.2.2.2.2.2, C.2⟩⟩⟩ rfl hn hsz hst (lv_room hcat) hdg hc) hS (fun q _ h => hFc q h) hFc (fun u t H1 locs1 ht hvm hw hB hz1 hk1 hS1 => ?_)
  have hB : B (va_A wc H.size) t.heap := hB
  rw [ht] at hB
  exact k H1 locs1 _ hB (fun w1 p1 d1 => va_join (wr := wr) (w1 := w1) hP hD isC isR hC hR1 hn2 hdis hk1 hFc p1 d1) hS1
theorem k_callX (C : KC p s m args c cc own nL D Y) (hP : va_P D vwCl ws H) (hD : va_D A0 ws) (hS : va_S A0 H0 H locs) (hA : ∀ q, H0.size ≤ q → A0 q) {y : MethodName} {bytes : ByteArray} {maxL n ix h mc ms b : Nat} {wc wr : va_W} {As st0 : List Value} {B : (Nat → Prop) → Heap → Prop} (isC isR : List Nat) (hC : isC.map (fun i => ws[i]?) = wc.map some) (hn1 : va_nd isC = true) (hR1 : isR.map (fun i => ws[i]?) = wr.map some) (hn2 : va_nd isR = true) (hdis : ∀ i ∈ isR, i ∉ isC) (hlk : kLx own ix y bytes maxL n) (hM : ∀ sz, kMet l y bytes maxL h mc ms D Y (.ref b :: As) wc sz B) (hn : As.length = n) (hsz : ls.size = nL) (hst : st0 = As.reverse ++ .ref b :: rest) (hcat : (rest.map fun v => v.category).sum ≤ 8) (hR : h + 1 ≤ R.frames ∧ 8 + (maxL + 11) + 31 * h ≤ R.locals) (hc : cells + mc ≤ R.cells ∧ slots + ms ≤ R.slots) (hdg : decode cc pc = .ok (.invokespecial ix, 3))
    (k : ∀ (H1 : Heap) (locs1 : List Loc) (A1 : Nat → Prop), B A1 H1 → (∀ w1, va_P D vwCl w1 H1 → va_D A1 w1 → va_P D vwCl (wr ++ w1) H1 ∧ va_D A0 (wr ++ w1)) → va_S A0 H0 H1 locs1 → W p l e R s m args below meth c H1 locs1 (cells + mc) (slots + ms) Q (F0 m (pc + 3) ls rest)) : W p l e R s m args below meth c H locs cells slots Q (F0 m pc ls st0) := by
  have hPc := k_sub hP isC hC
  have hDc := hD.sub isC hn1 hC
  have hFc := va_free (wc := wc) hD hS hA isC hC
  refine va_callv (va_runIN ⟨C.1.1, C.1.2.1, C.1.2.2.1, C.1.2.2.2.1, C.1.2.2.2.2.1⟩ (hM H.size) (⟨va_cnB n C.1.2.2.2.2.1 hlk.1 rfl rfl rfl (hlk.2.2.2.2.2 s C.1.2.2.2.2.2.2.2) (C.1.2.2.2.2.1 _ hlk.2.1) hlk.2.2.2.2.1 hR, hlk.2.2.2.1, C.1.2.2.2.2.1 _ hlk.2.2.1⟩) ⟨kPc_blind, fun U hU hW => ⟨rfl, by rw [hU], by rw [hU]; exact hPc, va_K.moved hW.alike C.1.2.2.2.2.2.1, hDc.weaken (fun _ _ _ _ => trivial), kNn.warm hW ⟨C.1.2.2.2.2.2.2.2, C.2⟩⟩⟩ rfl hn hsz hst (lv_room hcat) hdg hc) hS (fun q _ h => hFc q h) hFc (fun u t H1 locs1 ht hvm hw hB hz1 hk1 hS1 => ?_)
  have hB : B (va_A wc H.size) t.heap := hB
  rw [ht] at hB
  exact k H1 locs1 _ hB (fun w1 p1 d1 => va_join (wr := wr) (w1 := w1) hP hD isC isR hC hR1 hn2 hdis hk1 hFc p1 d1) hS1
def kPf (D : va_G) (Y : Nat → ClassId) (b : Nat) (wc : va_W) : Array Value → State → Prop := va_Pc [.ref b] (fun U => va_P D vwCl wc U.heap ∧ va_K D vwCl (zT Y) U)
theorem kPf_blind {D : va_G} {Y : Nat → ClassId} {b : Nat} {wc : va_W} : FrameBlind (kPf D Y b wc) := fun b U g mk q => ⟨q.1, q.2.1, va_K.moved (u := U) (U := U.calling g mk b) (Vm.Alike.refl U.vm) q.2.2⟩
theorem k_vSr (C : KC p s m args c cc own nL D Y) (hP : va_P D vwCl ws H) {y : MethodName} {bytes : ByteArray} {maxL ix h b r : Nat} {ret : Option FieldType} {wc : va_W} {ci : Nat} {q : vw_C} {fs : List Value} (hlk : zLv own ix y bytes maxL ret 0) (hM : Met l y (.code y bytes maxL ret :: wsL_law) (zR h) (kPf D Y b wc) (zSr r) 0 0 zNo) (q0 : Nat) (he : ws[q0]? = some (b, .inr (ci, fs))) (hci : vwCl[ci]? = some q) (hcl : q.1 = y.cls) (hPc : va_P D vwCl wc H) (hsz : ls.size = nL) (hcat : (rest.map fun v => v.category).sum ≤ 8) (hR : h + 1 ≤ R.frames ∧ 8 + (maxL + 11) + 31 * h ≤ R.locals) (hc : cells ≤ R.cells ∧ slots ≤ R.slots) (hdg : decode cc pc = .ok (.invokevirtual ix, 3)) (k : W p l e R s m args below meth c H locs cells slots Q (F0 m (pc + 3) ls (.ref r :: rest))) : W p l e R s m args below meth c H locs cells slots Q (F0 m pc ls (.ref b :: rest)) := by
  have hrc := va_recv C.1.2.2.2.2.2.1 hP hci he
  rw [hcl] at hrc
  have hrun := va_runV (e := e) (below := below) (meth := meth) (locs := locs) (cells := cells) (slots := slots) (As := []) (rest := rest) (g := F0 m pc ls (.ref b :: rest)) ⟨C.1.1, C.1.2.1, C.1.2.2.1, C.1.2.2.2.1, C.1.2.2.2.2.1⟩ hM (cwV 0 C.1.2.2.2.2.1 hlk.1 rfl rfl rfl ⟨rfl, hlk.2⟩ hR) ⟨kPf_blind, hrc, fun U hU hW => ⟨rfl, by rw [hU]; exact hPc, va_K.moved hW.alike C.1.2.2.2.2.2.1⟩⟩ rfl rfl hsz rfl (lv_room hcat) hdg ⟨hc.1, hc.2⟩
  intro T hT X
  obtain ⟨v, st₀, t, T', L, h0, X', hL, e1, e2, ⟨hv, hh⟩, st⟩ := hrun T hT X
  cases hv
  obtain ⟨t2, a1, b1⟩ := k T' (by rw [e1, hh, h0]) (Stand.forget X' (fun q h => (hL q h).elim))
  exact ⟨t2, st t2 a1, b1⟩
end KROWS
theorem kc_riderInFront (l : Launch) (D : va_G) (Y : Nat → ClassId) (b qr r : Nat) (vs : List Value) (f : Nat → Option Nat) (h0 : vs[0]? = some (.ref qr)) (h1 : vs[7]? = some (.int (iI 0))) (hf : f 0 = some r) : Met l yX6_riderInFront (.code yX6_riderInFront cX6_riderInFront 1 (some (.object "TandemRide$Rider")) :: wsL_law) (zR 0) (kPf D Y b [(b, .inr (5, vs)), (qr, ykN Y 2 4 f)]) (zSr r) 0 0 zNo := by
  refine Met.ofW (cc := cX6_riderInFront) (maxL := 1) (ret := some (.object "TandemRide$Rider")) rfl rfl ?_
  intro p e s m args below meth c s₁ B1 hml hv
  obtain ⟨rfl, hP, hK⟩ := hv
  have hl := lv_entry [Value.ref b] (n := 1) (Nat.le_of_ble_eq_true rfl)
  rw [lg_entry_eq]
  generalize (lg_sl ([Value.ref b]) ++ List.replicate (1 - (lg_sl ([Value.ref b])).length) Slot.unset).toArray = ls at hl ⊢
  have hl : lv_has ls 1 [(0, .ref b)] := hl
  have hx := B1.exec
  have hb := B1.bytes
  have hown : s.vm.findClass RX6 = some m.cls := findClass_of_methodNamed B1.named
  have hts : ∀ w ∈ wsL_law, w.before _ s = true := fun w hw => atoms_spec (ws := .code yX6_riderInFront cX6_riderInFront 1 (some (.object "TandemRide$Rider")) :: wsL_law) B1.pre w (List.mem_cons_of_mem _ hw)
  refine lv_aload_n hx hb dX6_riderInFront_0 rfl (lv_at hl 0 rfl) ?_
  refine va_get (D := D) (ci := 5) (v := .ref qr) (C := RX6) (T := TX6) (N := 14) hx hb hts inlX6 hown hK hP 0 rfl rfl 0 (by decide) (hts _ wd_40) (fun _ h9 => h9) h0 dX6_riderInFront_1 ?_
  refine lv_aload_n hx hb dX6_riderInFront_4 rfl (lv_at hl 0 rfl) ?_
  refine va_get (D := D) (ci := 5) (v := .int (iI 0)) (C := RX6) (T := TX6) (N := 14) hx hb hts inlX6 hown hK hP 0 rfl rfl 7 (by decide) (hts _ wd_48) (fun _ h9 => h9) h1 dX6_riderInFront_5 ?_
  refine va_aldq hx hb hK hP 1 2 rfl rfl (i := iI 0) (iI_in (by decide) (by decide) (by decide)) dX6_riderInFront_8 ?_
  have e : va_rf (f (iI 0).toNatClampNeg) = .ref r := by
    rw [iI_cl (by decide) (by decide)]
    show va_rf (f 0) = _
    rw [hf]; rfl
  rw [e]
  exact W.aret hx hb B1.returns (Or.inl ⟨_, rfl⟩) (Or.inr ⟨_, rfl⟩) (fun t ht _ => ⟨rfl, ht⟩) (fun q h => absurd h List.not_mem_nil) dX6_riderInFront_9 B1.notSynchronized
theorem kc_riderInBack (l : Launch) (D : va_G) (Y : Nat → ClassId) (b qr r : Nat) (vs : List Value) (f : Nat → Option Nat) (h0 : vs[0]? = some (.ref qr)) (h1 : vs[8]? = some (.int (iI 1))) (hf : f 1 = some r) : Met l yX6_riderInBack (.code yX6_riderInBack cX6_riderInBack 1 (some (.object "TandemRide$Rider")) :: wsL_law) (zR 0) (kPf D Y b [(b, .inr (5, vs)), (qr, ykN Y 2 4 f)]) (zSr r) 0 0 zNo := by
  refine Met.ofW (cc := cX6_riderInBack) (maxL := 1) (ret := some (.object "TandemRide$Rider")) rfl rfl ?_
  intro p e s m args below meth c s₁ B1 hml hv
  obtain ⟨rfl, hP, hK⟩ := hv
  have hl := lv_entry [Value.ref b] (n := 1) (Nat.le_of_ble_eq_true rfl)
  rw [lg_entry_eq]
  generalize (lg_sl ([Value.ref b]) ++ List.replicate (1 - (lg_sl ([Value.ref b])).length) Slot.unset).toArray = ls at hl ⊢
  have hl : lv_has ls 1 [(0, .ref b)] := hl
  have hx := B1.exec
  have hb := B1.bytes
  have hown : s.vm.findClass RX6 = some m.cls := findClass_of_methodNamed B1.named
  have hts : ∀ w ∈ wsL_law, w.before _ s = true := fun w hw => atoms_spec (ws := .code yX6_riderInBack cX6_riderInBack 1 (some (.object "TandemRide$Rider")) :: wsL_law) B1.pre w (List.mem_cons_of_mem _ hw)
  refine lv_aload_n hx hb dX6_riderInBack_0 rfl (lv_at hl 0 rfl) ?_
  refine va_get (D := D) (ci := 5) (v := .ref qr) (C := RX6) (T := TX6) (N := 14) hx hb hts inlX6 hown hK hP 0 rfl rfl 0 (by decide) (hts _ wd_40) (fun _ h9 => h9) h0 dX6_riderInBack_1 ?_
  refine lv_aload_n hx hb dX6_riderInBack_4 rfl (lv_at hl 0 rfl) ?_
  refine va_get (D := D) (ci := 5) (v := .int (iI 1)) (C := RX6) (T := TX6) (N := 14) hx hb hts inlX6 hown hK hP 0 rfl rfl 8 (by decide) (hts _ wd_49) (fun _ h9 => h9) h1 dX6_riderInBack_5 ?_
  refine va_aldq hx hb hK hP 1 2 rfl rfl (i := iI 1) (iI_in (by decide) (by decide) (by decide)) dX6_riderInBack_8 ?_
  have e : va_rf (f (iI 1).toNatClampNeg) = .ref r := by
    rw [iI_cl (by decide) (by decide)]
    show va_rf (f 1) = _
    rw [hf]; rfl
  rw [e]
  exact W.aret hx hb B1.returns (Or.inl ⟨_, rfl⟩) (Or.inr ⟨_, rfl⟩) (fun t ht _ => ⟨rfl, ht⟩) (fun q h => absurd h List.not_mem_nil) dX6_riderInBack_9 B1.notSynchronized
theorem kl_L_9 : kLi RL 9 yX7_init cX7_init 2 0 := ⟨gA1 wd_8 gA, wd_2, wd_7, rfl, ⟨by decide +kernel, by decide +kernel, by decide +kernel⟩, wd_6⟩
theorem kl_L_12 : kLi RL 12 yX8_init cX8_init 1 0 := ⟨gA1 wd_92 gA, wd_5, wd_91, rfl, ⟨by decide +kernel, by decide +kernel, by decide +kernel⟩, wd_90⟩
theorem kl_7_11 : kLi RX7 11 yX6_init cX6_init 2 0 := ⟨gA1 wd_37 gA, wd_14, wd_36, rfl, ⟨by decide +kernel, by decide +kernel, by decide +kernel⟩, wd_35⟩
theorem kx_7_47 : kLx RX7 47 yX5_init cX5_init 1 0 := ⟨gA1 wd_79 gA, wd_33, wd_78, rfl, ⟨by decide +kernel, by decide +kernel, by decide +kernel⟩, (fun _ h => h.2.2.2.2.2.2.2.2)⟩
theorem kx_7_26 : kLx RX7 26 yX1_init cX1_init 1 0 := ⟨gA1 wd_61 gA, wd_21, wd_60, rfl, ⟨by decide +kernel, by decide +kernel, by decide +kernel⟩, (fun _ h => h.1)⟩
theorem kx_7_33 : kLx RX7 33 yX2_init cX2_init 1 0 := ⟨gA1 wd_65 gA, wd_25, wd_64, rfl, ⟨by decide +kernel, by decide +kernel, by decide +kernel⟩, (fun _ h => h.2.1)⟩
theorem kx_7_40 : kLx RX7 40 yX3_init cX3_init 1 0 := ⟨gA1 wd_72 gA, wd_29, wd_71, rfl, ⟨by decide +kernel, by decide +kernel, by decide +kernel⟩, (fun _ h => h.2.2.1)⟩
theorem kx_6_58 : kLx RX6 58 yX4_init cX4_init 1 0 := ⟨gA1 wd_58 gA, wd_56, wd_57, rfl, ⟨by decide +kernel, by decide +kernel, by decide +kernel⟩, (fun _ h => h.2.2.2.2.2.2.1)⟩
