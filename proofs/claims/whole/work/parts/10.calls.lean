def zLv (own : String) (ix : Nat) (y : MethodName) (bytes : ByteArray) (maxL : Nat) (ret : Option FieldType) (n : Nat) : Prop := GoodIn wsL_law (wsV own ix y.cls y (.code y bytes maxL ret :: wsL_law)) ∧ y.cls ≠ "java/lang/invoke/MethodHandle" ∧ y.cls ≠ "java/lang/invoke/VarHandle" ∧ (parseMethodDescriptor y.desc).map (fun d => d.parameters.length) = some n
def zLs (own : String) (ix : Nat) (y : MethodName) (bytes : ByteArray) (maxL : Nat) (ret : Option FieldType) (n : Nat) : Prop := GoodIn wsL_law (va_wsS own ix y (.code y bytes maxL ret :: wsL_law)) ∧ y.cls ≠ "java/lang/invoke/MethodHandle" ∧ y.cls ≠ "java/lang/invoke/VarHandle" ∧ (parseMethodDescriptor y.desc).map (fun d => d.parameters.length) = some n
section ZCALL
variable {p : Program} {l : Launch} {e : Env} {R : Room} {s : State} {m : MethodId} {args : Array Value} {below : List Frame} {meth : Method} {c : Code} {H : Heap} {locs : List Loc} {cells slots : Nat} {Q : State → Prop} {cc : ByteArray} {pc : Nat} {ls : Array Slot} {rest : List Value} {own : String} {nL : Nat} {D : va_G} {Y : Nat → ClassId} {a : Int → Nat}
theorem z_runV {Qc : Array Value → State → Outcome → State → Prop} {free : Addr → Prop} (C : Cx p s m args c cc own nL D Y a) {σ : zS} (hP : GP D Y a σ H) {y : MethodName} {bytes : ByteArray} {maxL n ix h : Nat} {ret : Option FieldType} {As : List Value} {st0 : List Value} {kb : Int} {ci : Nat} {q : vw_C} (hlk : zLv own ix y bytes maxL ret n) (hM : zMet l y bytes maxL ret h (zPc D Y a σ (.ref (a kb) :: As)) (Qc) free) (hob : zOb Y a kb ci) (hci : vwCl[ci]? = some q) (hcl : q.1 = y.cls) (hn : As.length = n) (hsz : ls.size = nL) (hst : st0 = As.reverse ++ .ref (a kb) :: rest) (hcat : (rest.map fun v => v.category).sum ≤ 8) (hR : h + 1 ≤ R.frames ∧ 8 + (maxL + 11) + 31 * h ≤ R.locals) (hc : cells ≤ R.cells ∧ slots ≤ R.slots) (hdg : decode cc pc = .ok (.invokevirtual ix, 3)) : va_Run p l e R s m args below meth c H locs cells slots 0 0 (F0 m pc ls st0) rest (Qc (Value.ref (a kb) :: As).toArray) free := by
  have hK := C.2.2.2.2.2.1
  obtain ⟨q0, hq0, hw⟩ := zW_at (Y := Y) (a := a) (σ := σ) hob.1
  obtain ⟨fs, hfs⟩ := hob.2 (σ kb)
  rw [hfs] at hw
  have hrc := va_recv hK hP hci hw
  rw [hcl] at hrc
  exact va_runV ⟨C.1, C.2.1, C.2.2.1, C.2.2.2.1, C.2.2.2.2.1⟩ hM (cwV n C.2.2.2.2.1 hlk.1 rfl rfl rfl ⟨rfl, hlk.2⟩ hR) ⟨zPc_blind, hrc, fun U hU hW => ⟨rfl, by rw [hU]; exact hP, va_K.moved hW.alike hK, zNn.warm hW C.2.2.2.2.2.2.2⟩⟩ rfl hn hsz hst (lv_room hcat) hdg ⟨hc.1, hc.2⟩
theorem z_runS {Qc : Array Value → State → Outcome → State → Prop} {free : Addr → Prop} (C : Cx p s m args c cc own nL D Y a) {σ : zS} (hP : GP D Y a σ H) {y : MethodName} {bytes : ByteArray} {maxL n ix h : Nat} {ret : Option FieldType} {As : List Value} {st0 : List Value} (hlk : zLs own ix y bytes maxL ret n) (hM : zMet l y bytes maxL ret h (zPc D Y a σ As) (Qc) free) (hn : As.length = n) (hsz : ls.size = nL) (hst : st0 = As.reverse ++ rest) (hcat : (rest.map fun v => v.category).sum ≤ 8) (hR : h + 1 ≤ R.frames ∧ 8 + (maxL + 11) + 31 * h ≤ R.locals) (hc : cells ≤ R.cells ∧ slots ≤ R.slots) (hdg : decode cc pc = .ok (.invokestatic ix, 3)) : va_Run p l e R s m args below meth c H locs cells slots 0 0 (F0 m pc ls st0) rest (Qc As.toArray) free := by
  have hK := C.2.2.2.2.2.1
  exact va_runS ⟨C.1, C.2.1, C.2.2.1, C.2.2.2.1, C.2.2.2.2.1⟩ hM (va_cwS n C.2.2.2.2.1 hlk.1 rfl rfl rfl hlk.2 hR) ⟨zPc_blind, fun U hU hW => ⟨rfl, by rw [hU]; exact hP, va_K.moved hW.alike hK, zNn.warm hW C.2.2.2.2.2.2.2⟩⟩ rfl hn hsz hst (lv_room hcat) hdg ⟨hc.1, hc.2⟩
def zLn (own : String) (ix : Nat) (y : MethodName) (bytes : ByteArray) (maxL : Nat) (ret : Option FieldType) (n : Nat) : Prop := (∀ s, zNn s → va_Nw (.methodLinkNest own ix y RX7) s) ∧ GoodIn wsL_law (.code y bytes maxL ret :: wsL_law) ∧ Cond.static y ∈ wsL_law ∧ Cond.initialized y.cls ∈ wsL_law ∧ y.cls ≠ "java/lang/invoke/MethodHandle" ∧ y.cls ≠ "java/lang/invoke/VarHandle" ∧ (parseMethodDescriptor y.desc).map (fun d => d.parameters.length) = some n
theorem z_runN {Qc : Array Value → State → Outcome → State → Prop} {free : Addr → Prop} (C : Cx p s m args c cc own nL D Y a) {σ : zS} (hP : GP D Y a σ H) {y : MethodName} {bytes : ByteArray} {maxL n ix h : Nat} {ret : Option FieldType} {As : List Value} {st0 : List Value} (hlk : zLn own ix y bytes maxL ret n) (hM : zMet l y bytes maxL ret h (zPc D Y a σ As) (Qc) free) (hn : As.length = n) (hsz : ls.size = nL) (hst : st0 = As.reverse ++ rest) (hcat : (rest.map fun v => v.category).sum ≤ 8) (hR : h + 1 ≤ R.frames ∧ 8 + (maxL + 11) + 31 * h ≤ R.locals) (hc : cells ≤ R.cells ∧ slots ≤ R.slots) (hdg : decode cc pc = .ok (.invokestatic ix, 3)) : va_Run p l e R s m args below meth c H locs cells slots 0 0 (F0 m pc ls st0) rest (Qc As.toArray) free := by
  have hK := C.2.2.2.2.2.1
  have hN := C.2.2.2.2.2.2.2
  exact va_runSN ⟨C.1, C.2.1, C.2.2.1, C.2.2.2.1, C.2.2.2.2.1⟩ hM ⟨va_cnB n C.2.2.2.2.1 hlk.2.1 rfl rfl rfl (hlk.1 s hN) (C.2.2.2.2.1 _ hlk.2.2.2.1) hlk.2.2.2.2 hR, C.2.2.2.2.1 _ hlk.2.2.1, trivial⟩ ⟨zPc_blind, fun U hU hW => ⟨rfl, by rw [hU]; exact hP, va_K.moved hW.alike hK, zNn.warm hW hN⟩⟩ rfl hn hsz hst (lv_room hcat) hdg ⟨hc.1, hc.2⟩
theorem z_vSi {r : Int} (C : Cx p s m args c cc own nL D Y a) {σ : zS} (hP : GP D Y a σ H) {y : MethodName} {bytes : ByteArray} {maxL n ix h : Nat} {ret : Option FieldType} {As : List Value} {st0 : List Value} {kb : Int} {ci : Nat} {q : vw_C} (hlk : zLv own ix y bytes maxL ret n) (hM : zMet l y bytes maxL ret h (zPc D Y a σ (.ref (a kb) :: As)) (zSi r) zNo) (hob : zOb Y a kb ci) (hci : vwCl[ci]? = some q) (hcl : q.1 = y.cls) (hn : As.length = n) (hsz : ls.size = nL) (hst : st0 = As.reverse ++ .ref (a kb) :: rest) (hcat : (rest.map fun v => v.category).sum ≤ 8) (hR : h + 1 ≤ R.frames ∧ 8 + (maxL + 11) + 31 * h ≤ R.locals) (hc : cells ≤ R.cells ∧ slots ≤ R.slots) (hdg : decode cc pc = .ok (.invokevirtual ix, 3)) (k : W p l e R s m args below meth c H locs cells slots Q (F0 m (pc + 3) ls (.int (iI r) :: rest))) : W p l e R s m args below meth c H locs cells slots Q (F0 m pc ls st0) := by
  have hrun := z_runV (e := e) (below := below) (meth := meth) (locs := locs) C hP hlk hM hob hci hcl hn hsz hst hcat hR hc hdg
  intro T hT X
  obtain ⟨v, st₀, t, T', L, h0, X', hL, e1, e2, ⟨hv, hh⟩, st⟩ := hrun T hT X
  cases hv
  obtain ⟨t2, a1, b1⟩ := k T' (by rw [e1, hh, h0]) (Stand.forget X' (fun q h => (hL q h).elim))
  exact ⟨t2, st t2 a1, b1⟩
theorem z_sSi {r : Int} (C : Cx p s m args c cc own nL D Y a) {σ : zS} (hP : GP D Y a σ H) {y : MethodName} {bytes : ByteArray} {maxL n ix h : Nat} {ret : Option FieldType} {As : List Value} {st0 : List Value} (hlk : zLs own ix y bytes maxL ret n) (hM : zMet l y bytes maxL ret h (zPc D Y a σ As) (zSi r) zNo) (hn : As.length = n) (hsz : ls.size = nL) (hst : st0 = As.reverse ++ rest) (hcat : (rest.map fun v => v.category).sum ≤ 8) (hR : h + 1 ≤ R.frames ∧ 8 + (maxL + 11) + 31 * h ≤ R.locals) (hc : cells ≤ R.cells ∧ slots ≤ R.slots) (hdg : decode cc pc = .ok (.invokestatic ix, 3)) (k : W p l e R s m args below meth c H locs cells slots Q (F0 m (pc + 3) ls (.int (iI r) :: rest))) : W p l e R s m args below meth c H locs cells slots Q (F0 m pc ls st0) := by
  have hrun := z_runS (e := e) (below := below) (meth := meth) (locs := locs) C hP hlk hM hn hsz hst hcat hR hc hdg
  intro T hT X
  obtain ⟨v, st₀, t, T', L, h0, X', hL, e1, e2, ⟨hv, hh⟩, st⟩ := hrun T hT X
  cases hv
  obtain ⟨t2, a1, b1⟩ := k T' (by rw [e1, hh, h0]) (Stand.forget X' (fun q h => (hL q h).elim))
  exact ⟨t2, st t2 a1, b1⟩
theorem z_nSi {r : Int} (C : Cx p s m args c cc own nL D Y a) {σ : zS} (hP : GP D Y a σ H) {y : MethodName} {bytes : ByteArray} {maxL n ix h : Nat} {ret : Option FieldType} {As : List Value} {st0 : List Value} (hlk : zLn own ix y bytes maxL ret n) (hM : zMet l y bytes maxL ret h (zPc D Y a σ As) (zSi r) zNo) (hn : As.length = n) (hsz : ls.size = nL) (hst : st0 = As.reverse ++ rest) (hcat : (rest.map fun v => v.category).sum ≤ 8) (hR : h + 1 ≤ R.frames ∧ 8 + (maxL + 11) + 31 * h ≤ R.locals) (hc : cells ≤ R.cells ∧ slots ≤ R.slots) (hdg : decode cc pc = .ok (.invokestatic ix, 3)) (k : W p l e R s m args below meth c H locs cells slots Q (F0 m (pc + 3) ls (.int (iI r) :: rest))) : W p l e R s m args below meth c H locs cells slots Q (F0 m pc ls st0) := by
  have hrun := z_runN (e := e) (below := below) (meth := meth) (locs := locs) C hP hlk hM hn hsz hst hcat hR hc hdg
  intro T hT X
  obtain ⟨v, st₀, t, T', L, h0, X', hL, e1, e2, ⟨hv, hh⟩, st⟩ := hrun T hT X
  cases hv
  obtain ⟨t2, a1, b1⟩ := k T' (by rw [e1, hh, h0]) (Stand.forget X' (fun q h => (hL q h).elim))
  exact ⟨t2, st t2 a1, b1⟩
theorem z_vSl {r : Int} (C : Cx p s m args c cc own nL D Y a) {σ : zS} (hP : GP D Y a σ H) {y : MethodName} {bytes : ByteArray} {maxL n ix h : Nat} {ret : Option FieldType} {As : List Value} {st0 : List Value} {kb : Int} {ci : Nat} {q : vw_C} (hlk : zLv own ix y bytes maxL ret n) (hM : zMet l y bytes maxL ret h (zPc D Y a σ (.ref (a kb) :: As)) (zSl r) zNo) (hob : zOb Y a kb ci) (hci : vwCl[ci]? = some q) (hcl : q.1 = y.cls) (hn : As.length = n) (hsz : ls.size = nL) (hst : st0 = As.reverse ++ .ref (a kb) :: rest) (hcat : (rest.map fun v => v.category).sum ≤ 8) (hR : h + 1 ≤ R.frames ∧ 8 + (maxL + 11) + 31 * h ≤ R.locals) (hc : cells ≤ R.cells ∧ slots ≤ R.slots) (hdg : decode cc pc = .ok (.invokevirtual ix, 3)) (k : W p l e R s m args below meth c H locs cells slots Q (F0 m (pc + 3) ls (.long (jI r) :: rest))) : W p l e R s m args below meth c H locs cells slots Q (F0 m pc ls st0) := by
  have hrun := z_runV (e := e) (below := below) (meth := meth) (locs := locs) C hP hlk hM hob hci hcl hn hsz hst hcat hR hc hdg
  intro T hT X
  obtain ⟨v, st₀, t, T', L, h0, X', hL, e1, e2, ⟨hv, hh⟩, st⟩ := hrun T hT X
  cases hv
  obtain ⟨t2, a1, b1⟩ := k T' (by rw [e1, hh, h0]) (Stand.forget X' (fun q h => (hL q h).elim))
  exact ⟨t2, st t2 a1, b1⟩
theorem z_sSl {r : Int} (C : Cx p s m args c cc own nL D Y a) {σ : zS} (hP : GP D Y a σ H) {y : MethodName} {bytes : ByteArray} {maxL n ix h : Nat} {ret : Option FieldType} {As : List Value} {st0 : List Value} (hlk : zLs own ix y bytes maxL ret n) (hM : zMet l y bytes maxL ret h (zPc D Y a σ As) (zSl r) zNo) (hn : As.length = n) (hsz : ls.size = nL) (hst : st0 = As.reverse ++ rest) (hcat : (rest.map fun v => v.category).sum ≤ 8) (hR : h + 1 ≤ R.frames ∧ 8 + (maxL + 11) + 31 * h ≤ R.locals) (hc : cells ≤ R.cells ∧ slots ≤ R.slots) (hdg : decode cc pc = .ok (.invokestatic ix, 3)) (k : W p l e R s m args below meth c H locs cells slots Q (F0 m (pc + 3) ls (.long (jI r) :: rest))) : W p l e R s m args below meth c H locs cells slots Q (F0 m pc ls st0) := by
  have hrun := z_runS (e := e) (below := below) (meth := meth) (locs := locs) C hP hlk hM hn hsz hst hcat hR hc hdg
  intro T hT X
  obtain ⟨v, st₀, t, T', L, h0, X', hL, e1, e2, ⟨hv, hh⟩, st⟩ := hrun T hT X
  cases hv
  obtain ⟨t2, a1, b1⟩ := k T' (by rw [e1, hh, h0]) (Stand.forget X' (fun q h => (hL q h).elim))
  exact ⟨t2, st t2 a1, b1⟩
theorem z_nSl {r : Int} (C : Cx p s m args c cc own nL D Y a) {σ : zS} (hP : GP D Y a σ H) {y : MethodName} {bytes : ByteArray} {maxL n ix h : Nat} {ret : Option FieldType} {As : List Value} {st0 : List Value} (hlk : zLn own ix y bytes maxL ret n) (hM : zMet l y bytes maxL ret h (zPc D Y a σ As) (zSl r) zNo) (hn : As.length = n) (hsz : ls.size = nL) (hst : st0 = As.reverse ++ rest) (hcat : (rest.map fun v => v.category).sum ≤ 8) (hR : h + 1 ≤ R.frames ∧ 8 + (maxL + 11) + 31 * h ≤ R.locals) (hc : cells ≤ R.cells ∧ slots ≤ R.slots) (hdg : decode cc pc = .ok (.invokestatic ix, 3)) (k : W p l e R s m args below meth c H locs cells slots Q (F0 m (pc + 3) ls (.long (jI r) :: rest))) : W p l e R s m args below meth c H locs cells slots Q (F0 m pc ls st0) := by
  have hrun := z_runN (e := e) (below := below) (meth := meth) (locs := locs) C hP hlk hM hn hsz hst hcat hR hc hdg
  intro T hT X
  obtain ⟨v, st₀, t, T', L, h0, X', hL, e1, e2, ⟨hv, hh⟩, st⟩ := hrun T hT X
  cases hv
  obtain ⟨t2, a1, b1⟩ := k T' (by rw [e1, hh, h0]) (Stand.forget X' (fun q h => (hL q h).elim))
  exact ⟨t2, st t2 a1, b1⟩
theorem z_vSr {r : Nat} (C : Cx p s m args c cc own nL D Y a) {σ : zS} (hP : GP D Y a σ H) {y : MethodName} {bytes : ByteArray} {maxL n ix h : Nat} {ret : Option FieldType} {As : List Value} {st0 : List Value} {kb : Int} {ci : Nat} {q : vw_C} (hlk : zLv own ix y bytes maxL ret n) (hM : zMet l y bytes maxL ret h (zPc D Y a σ (.ref (a kb) :: As)) (zSr r) zNo) (hob : zOb Y a kb ci) (hci : vwCl[ci]? = some q) (hcl : q.1 = y.cls) (hn : As.length = n) (hsz : ls.size = nL) (hst : st0 = As.reverse ++ .ref (a kb) :: rest) (hcat : (rest.map fun v => v.category).sum ≤ 8) (hR : h + 1 ≤ R.frames ∧ 8 + (maxL + 11) + 31 * h ≤ R.locals) (hc : cells ≤ R.cells ∧ slots ≤ R.slots) (hdg : decode cc pc = .ok (.invokevirtual ix, 3)) (k : W p l e R s m args below meth c H locs cells slots Q (F0 m (pc + 3) ls (.ref r :: rest))) : W p l e R s m args below meth c H locs cells slots Q (F0 m pc ls st0) := by
  have hrun := z_runV (e := e) (below := below) (meth := meth) (locs := locs) C hP hlk hM hob hci hcl hn hsz hst hcat hR hc hdg
  intro T hT X
  obtain ⟨v, st₀, t, T', L, h0, X', hL, e1, e2, ⟨hv, hh⟩, st⟩ := hrun T hT X
  cases hv
  obtain ⟨t2, a1, b1⟩ := k T' (by rw [e1, hh, h0]) (Stand.forget X' (fun q h => (hL q h).elim))
  exact ⟨t2, st t2 a1, b1⟩
theorem z_sSr {r : Nat} (C : Cx p s m args c cc own nL D Y a) {σ : zS} (hP : GP D Y a σ H) {y : MethodName} {bytes : ByteArray} {maxL n ix h : Nat} {ret : Option FieldType} {As : List Value} {st0 : List Value} (hlk : zLs own ix y bytes maxL ret n) (hM : zMet l y bytes maxL ret h (zPc D Y a σ As) (zSr r) zNo) (hn : As.length = n) (hsz : ls.size = nL) (hst : st0 = As.reverse ++ rest) (hcat : (rest.map fun v => v.category).sum ≤ 8) (hR : h + 1 ≤ R.frames ∧ 8 + (maxL + 11) + 31 * h ≤ R.locals) (hc : cells ≤ R.cells ∧ slots ≤ R.slots) (hdg : decode cc pc = .ok (.invokestatic ix, 3)) (k : W p l e R s m args below meth c H locs cells slots Q (F0 m (pc + 3) ls (.ref r :: rest))) : W p l e R s m args below meth c H locs cells slots Q (F0 m pc ls st0) := by
  have hrun := z_runS (e := e) (below := below) (meth := meth) (locs := locs) C hP hlk hM hn hsz hst hcat hR hc hdg
  intro T hT X
  obtain ⟨v, st₀, t, T', L, h0, X', hL, e1, e2, ⟨hv, hh⟩, st⟩ := hrun T hT X
  cases hv
  obtain ⟨t2, a1, b1⟩ := k T' (by rw [e1, hh, h0]) (Stand.forget X' (fun q h => (hL q h).elim))
  exact ⟨t2, st t2 a1, b1⟩
theorem z_nSr {r : Nat} (C : Cx p s m args c cc own nL D Y a) {σ : zS} (hP : GP D Y a σ H) {y : MethodName} {bytes : ByteArray} {maxL n ix h : Nat} {ret : Option FieldType} {As : List Value} {st0 : List Value} (hlk : zLn own ix y bytes maxL ret n) (hM : zMet l y bytes maxL ret h (zPc D Y a σ As) (zSr r) zNo) (hn : As.length = n) (hsz : ls.size = nL) (hst : st0 = As.reverse ++ rest) (hcat : (rest.map fun v => v.category).sum ≤ 8) (hR : h + 1 ≤ R.frames ∧ 8 + (maxL + 11) + 31 * h ≤ R.locals) (hc : cells ≤ R.cells ∧ slots ≤ R.slots) (hdg : decode cc pc = .ok (.invokestatic ix, 3)) (k : W p l e R s m args below meth c H locs cells slots Q (F0 m (pc + 3) ls (.ref r :: rest))) : W p l e R s m args below meth c H locs cells slots Q (F0 m pc ls st0) := by
  have hrun := z_runN (e := e) (below := below) (meth := meth) (locs := locs) C hP hlk hM hn hsz hst hcat hR hc hdg
  intro T hT X
  obtain ⟨v, st₀, t, T', L, h0, X', hL, e1, e2, ⟨hv, hh⟩, st⟩ := hrun T hT X
  cases hv
  obtain ⟨t2, a1, b1⟩ := k T' (by rw [e1, hh, h0]) (Stand.forget X' (fun q h => (hL q h).elim))
  exact ⟨t2, st t2 a1, b1⟩
theorem z_vQi {post : Int → zS → Prop} {H0 : Heap} (hS : va_S (inA a) H0 H locs) (C : Cx p s m args c cc own nL D Y a) {σ : zS} (hP : GP D Y a σ H) {y : MethodName} {bytes : ByteArray} {maxL n ix h : Nat} {ret : Option FieldType} {As : List Value} {st0 : List Value} {kb : Int} {ci : Nat} {q : vw_C} (hlk : zLv own ix y bytes maxL ret n) (hM : zMet l y bytes maxL ret h (zPc D Y a σ (.ref (a kb) :: As)) (zQi D Y a post) (inA a)) (hob : zOb Y a kb ci) (hci : vwCl[ci]? = some q) (hcl : q.1 = y.cls) (hn : As.length = n) (hsz : ls.size = nL) (hst : st0 = As.reverse ++ .ref (a kb) :: rest) (hcat : (rest.map fun v => v.category).sum ≤ 8) (hR : h + 1 ≤ R.frames ∧ 8 + (maxL + 11) + 31 * h ≤ R.locals) (hc : cells ≤ R.cells ∧ slots ≤ R.slots) (hdg : decode cc pc = .ok (.invokevirtual ix, 3)) (k : ∀ (r : Int) (σ' : zS) (H1 : Heap) (locs1 : List Loc), post r σ' → GP D Y a σ' H1 → va_S (inA a) H0 H1 locs1 → W p l e R s m args below meth c H1 locs1 cells slots Q (F0 m (pc + 3) ls (.int (iI r) :: rest))) : W p l e R s m args below meth c H locs cells slots Q (F0 m pc ls st0) := by
  have hrun := z_runV (e := e) (below := below) (meth := meth) (locs := locs) C hP hlk hM hob hci hcl hn hsz hst hcat hR hc hdg
  intro T hT X
  obtain ⟨v, st₀, t, T', L, h0, X', hL, e1, e2, ⟨⟨r, σ1, hv, hp, hg⟩, hz, hk⟩, st⟩ := hrun T hT X
  cases hv
  rw [h0] at hz hk
  obtain ⟨t2, a1, b1⟩ := k r σ1 T'.heap (locs ++ L) hp (by rw [e1]; exact hg)
    ⟨Nat.le_trans hS.1 (by rw [e1]; exact hz), fun q h1 h2 => by rw [e1, hk q (Nat.lt_of_lt_of_le h1 hS.1) h2]; exact hS.2.1 q h1 h2, fun q hq => by
      rcases List.mem_append.mp hq with h | h
      · exact hS.2.2 q h
      · exact hL q h⟩ T' rfl X'
  exact ⟨t2, st t2 a1, b1⟩
theorem z_vQl {post : Int → zS → Prop} {H0 : Heap} (hS : va_S (inA a) H0 H locs) (C : Cx p s m args c cc own nL D Y a) {σ : zS} (hP : GP D Y a σ H) {y : MethodName} {bytes : ByteArray} {maxL n ix h : Nat} {ret : Option FieldType} {As : List Value} {st0 : List Value} {kb : Int} {ci : Nat} {q : vw_C} (hlk : zLv own ix y bytes maxL ret n) (hM : zMet l y bytes maxL ret h (zPc D Y a σ (.ref (a kb) :: As)) (zQl D Y a post) (inA a)) (hob : zOb Y a kb ci) (hci : vwCl[ci]? = some q) (hcl : q.1 = y.cls) (hn : As.length = n) (hsz : ls.size = nL) (hst : st0 = As.reverse ++ .ref (a kb) :: rest) (hcat : (rest.map fun v => v.category).sum ≤ 8) (hR : h + 1 ≤ R.frames ∧ 8 + (maxL + 11) + 31 * h ≤ R.locals) (hc : cells ≤ R.cells ∧ slots ≤ R.slots) (hdg : decode cc pc = .ok (.invokevirtual ix, 3)) (k : ∀ (r : Int) (σ' : zS) (H1 : Heap) (locs1 : List Loc), post r σ' → GP D Y a σ' H1 → va_S (inA a) H0 H1 locs1 → W p l e R s m args below meth c H1 locs1 cells slots Q (F0 m (pc + 3) ls (.long (jI r) :: rest))) : W p l e R s m args below meth c H locs cells slots Q (F0 m pc ls st0) := by
  have hrun := z_runV (e := e) (below := below) (meth := meth) (locs := locs) C hP hlk hM hob hci hcl hn hsz hst hcat hR hc hdg
  intro T hT X
  obtain ⟨v, st₀, t, T', L, h0, X', hL, e1, e2, ⟨⟨r, σ1, hv, hp, hg⟩, hz, hk⟩, st⟩ := hrun T hT X
  cases hv
  rw [h0] at hz hk
  obtain ⟨t2, a1, b1⟩ := k r σ1 T'.heap (locs ++ L) hp (by rw [e1]; exact hg)
    ⟨Nat.le_trans hS.1 (by rw [e1]; exact hz), fun q h1 h2 => by rw [e1, hk q (Nat.lt_of_lt_of_le h1 hS.1) h2]; exact hS.2.1 q h1 h2, fun q hq => by
      rcases List.mem_append.mp hq with h | h
      · exact hS.2.2 q h
      · exact hL q h⟩ T' rfl X'
  exact ⟨t2, st t2 a1, b1⟩
theorem z_vQv {post : zS → Prop} {H0 : Heap} (hS : va_S (inA a) H0 H locs) (C : Cx p s m args c cc own nL D Y a) {σ : zS} (hP : GP D Y a σ H) {y : MethodName} {bytes : ByteArray} {maxL n ix h : Nat} {ret : Option FieldType} {As : List Value} {st0 : List Value} {kb : Int} {ci : Nat} {q : vw_C} (hlk : zLv own ix y bytes maxL ret n) (hM : zMet l y bytes maxL ret h (zPc D Y a σ (.ref (a kb) :: As)) (zQv D Y a post) (inA a)) (hob : zOb Y a kb ci) (hci : vwCl[ci]? = some q) (hcl : q.1 = y.cls) (hn : As.length = n) (hsz : ls.size = nL) (hst : st0 = As.reverse ++ .ref (a kb) :: rest) (hcat : (rest.map fun v => v.category).sum ≤ 8) (hR : h + 1 ≤ R.frames ∧ 8 + (maxL + 11) + 31 * h ≤ R.locals) (hc : cells ≤ R.cells ∧ slots ≤ R.slots) (hdg : decode cc pc = .ok (.invokevirtual ix, 3)) (k : ∀ (σ' : zS) (H1 : Heap) (locs1 : List Loc), post σ' → GP D Y a σ' H1 → va_S (inA a) H0 H1 locs1 → W p l e R s m args below meth c H1 locs1 cells slots Q (F0 m (pc + 3) ls (rest))) : W p l e R s m args below meth c H locs cells slots Q (F0 m pc ls st0) := by
  have hrun := z_runV (e := e) (below := below) (meth := meth) (locs := locs) C hP hlk hM hob hci hcl hn hsz hst hcat hR hc hdg
  intro T hT X
  obtain ⟨v, st₀, t, T', L, h0, X', hL, e1, e2, ⟨⟨σ1, hv, hp, hg⟩, hz, hk⟩, st⟩ := hrun T hT X
  cases hv
  rw [h0] at hz hk
  obtain ⟨t2, a1, b1⟩ := k σ1 T'.heap (locs ++ L) hp (by rw [e1]; exact hg)
    ⟨Nat.le_trans hS.1 (by rw [e1]; exact hz), fun q h1 h2 => by rw [e1, hk q (Nat.lt_of_lt_of_le h1 hS.1) h2]; exact hS.2.1 q h1 h2, fun q hq => by
      rcases List.mem_append.mp hq with h | h
      · exact hS.2.2 q h
      · exact hL q h⟩ T' rfl X'
  exact ⟨t2, st t2 a1, b1⟩
end ZCALL
section ZRET
variable {p : Program} {l : Launch} {e : Env} {R : Room} {s : State} {m : MethodId} {args : Array Value} {below : List Frame} {meth : Method} {c : Code} {H : Heap} {locs : List Loc} {cc : ByteArray} {pc : Nat} {ls : Array Slot} {own : String} {nL : Nat} {D : va_G} {Y : Nat → ClassId} {a : Int → Nat}
theorem z_retSi (C : Cx p s m args c cc own nL D Y a) {x r : Int} {ty : FieldType} (hr : meth.sig.returnType = some ty) (hlocks : meth.locks = false) (hn : narrow ty (.int (iI x)) = .int (iI x)) (hx : x = r) (hdg : decode cc pc = .ok (.ireturn, 1)) : W p l e R s m args below meth c s.heap [] 0 0 (MQ below (zSi r) args s 0 0 zNo) (F0 m pc ls [.int (iI x)]) := W.zret C.1 C.2.1 hr hn (fun t ht _ => ⟨by rw [hx], ht⟩) (fun q h => absurd h List.not_mem_nil) hdg hlocks
theorem z_retSl (C : Cx p s m args c cc own nL D Y a) {x r : Int} (hr : meth.sig.returnType = some .long) (hlocks : meth.locks = false) (hx : x = r) (hdg : decode cc pc = .ok (.lreturn, 1)) : W p l e R s m args below meth c s.heap [] 0 0 (MQ below (zSl r) args s 0 0 zNo) (F0 m pc ls [.long (jI x)]) := W.lret C.1 C.2.1 hr (fun t ht _ => ⟨by rw [hx], ht⟩) (fun q h => absurd h List.not_mem_nil) hdg hlocks
theorem z_retSr (C : Cx p s m args c cc own nL D Y a) {x r : Nat} {nm : String} (hr : meth.sig.returnType = some (.object nm)) (hlocks : meth.locks = false) (hx : x = r) (hdg : decode cc pc = .ok (.areturn, 1)) : W p l e R s m args below meth c s.heap [] 0 0 (MQ below (zSr r) args s 0 0 zNo) (F0 m pc ls [.ref x]) := W.aret C.1 C.2.1 hr (Or.inl ⟨_, rfl⟩) (Or.inr ⟨_, rfl⟩) (fun t ht _ => ⟨by rw [hx], ht⟩) (fun q h => absurd h List.not_mem_nil) hdg hlocks
theorem z_retQi (C : Cx p s m args c cc own nL D Y a) {σ : zS} (hP : GP D Y a σ H) (hS : va_S (inA a) s.heap H locs) {x : Int} {post : Int → zS → Prop} {ty : FieldType} (hr : meth.sig.returnType = some ty) (hlocks : meth.locks = false) (hn : narrow ty (.int (iI x)) = .int (iI x)) (hx : post x σ) (hdg : decode cc pc = .ok (.ireturn, 1)) : W p l e R s m args below meth c H locs 0 0 (MQ below (zQi D Y a post) args s 0 0 (inA a)) (F0 m pc ls [.int (iI x)]) := W.zret C.1 C.2.1 hr hn (fun t ht _ => ⟨⟨x, σ, rfl, hx, by rw [ht]; exact hP⟩, hS.F ht⟩) hS.2.2 hdg hlocks
theorem z_retQl (C : Cx p s m args c cc own nL D Y a) {σ : zS} (hP : GP D Y a σ H) (hS : va_S (inA a) s.heap H locs) {x : Int} {post : Int → zS → Prop} (hr : meth.sig.returnType = some .long) (hlocks : meth.locks = false) (hx : post x σ) (hdg : decode cc pc = .ok (.lreturn, 1)) : W p l e R s m args below meth c H locs 0 0 (MQ below (zQl D Y a post) args s 0 0 (inA a)) (F0 m pc ls [.long (jI x)]) := W.lret C.1 C.2.1 hr (fun t ht _ => ⟨⟨x, σ, rfl, hx, by rw [ht]; exact hP⟩, hS.F ht⟩) hS.2.2 hdg hlocks
theorem z_retQv (C : Cx p s m args c cc own nL D Y a) {σ : zS} (hP : GP D Y a σ H) (hS : va_S (inA a) s.heap H locs) {post : zS → Prop} (hr : meth.sig.returnType = none) (hlocks : meth.locks = false) (hx : post σ) (hdg : decode cc pc = .ok (.return_, 1)) : W p l e R s m args below meth c H locs 0 0 (MQ below (zQv D Y a post) args s 0 0 (inA a)) (F0 m pc ls []) := W.vret C.1 C.2.1 hr (fun t ht _ => ⟨⟨σ, rfl, hx, by rw [ht]; exact hP⟩, hS.F ht⟩) hS.2.2 hdg hlocks
end ZRET
theorem zNb {x : Int} (h : x = 0 ∨ x = 1) : narrow .boolean (.int (iI x)) = .int (iI x) := by rcases h with rfl | rfl <;> rfl
theorem z_start {l : Launch} {y : MethodName} {cc : ByteArray} {maxL h : Nat} {ret : Option FieldType} {av : List Value} {Qc : Array Value → State → Outcome → State → Prop} {free : Addr → Prop} {D : va_G} {Y : Nat → ClassId} {a : Int → Nat} {σ : zS} (hy : plainName y.cls = true) (hlen : (lg_sl av).length ≤ maxL) (hI : zI a)
    (body : ∀ (p : Program) (e : Env) (s : State) (m : MethodId) (below : List Frame) (meth : Method) (c : Code) (ls : Array Slot), Cx p s m av.toArray c cc y.cls maxL D Y a → meth.sig.returnType = ret → meth.locks = false → lv_has ls maxL (lv_args 0 av) → GP D Y a σ s.heap → W p l e (zR h) s m av.toArray below meth c s.heap [] 0 0 (MQ below Qc av.toArray s 0 0 free) (F0 m 0 ls [])) : zMet l y cc maxL ret h (zPc D Y a σ av) Qc free := by
  refine Met.ofW (cc := cc) (maxL := maxL) (ret := ret) hy rfl ?_
  intro p e s m args below meth c s₁ B hml hv
  obtain ⟨rfl, hP, hK, hN⟩ := hv
  have hl := lv_entry av (n := maxL) hlen
  rw [lg_entry_eq]
  exact body p e s m below meth c _ ⟨B.exec, B.bytes, hml, findClass_of_methodNamed B.named, fun w hw => atoms_spec (ws := .code y cc maxL ret :: wsL_law) B.pre w (List.mem_cons_of_mem _ hw), hK, hI, hN⟩ B.returns B.notSynchronized hl hP
theorem lk_L_13 : zLv RL 13 yX7_rider cX7_rider 6 (some .int) 5 := ⟨gA1 wd_118 (gA1 wd_119 (gA1 wd_120 (gA1 wd_2 (gA1 wd_121 gA)))), by decide +kernel, by decide +kernel, by decide +kernel⟩
theorem lk_X7_52 : zLs RX7 52 yX7_isWithin cX7_isWithin 3 (some .boolean) 3 := ⟨gA1 wd_123 (gA1 wd_124 (gA1 wd_2 (gA1 wd_125 gA))), by decide +kernel, by decide +kernel, by decide +kernel⟩
theorem lk_X7_60 : zLv RX7 60 yX4_come cX4_come 5 none 4 := ⟨gA1 wd_126 (gA1 wd_127 (gA1 wd_128 (gA1 wd_56 (gA1 wd_129 gA)))), by decide +kernel, by decide +kernel, by decide +kernel⟩
theorem lk_X7_66 : zLv RX7 66 yX6_ridersThere cX6_ridersThere 1 (some .int) 0 := ⟨gA1 wd_135 (gA1 wd_136 (gA1 wd_137 (gA1 wd_14 (gA1 wd_138 gA)))), by decide +kernel, by decide +kernel, by decide +kernel⟩
theorem lk_X6_77 : zLv RX6 77 yX6_riderBits cX6_riderBits 3 (some .int) 0 := ⟨gA1 wd_139 (gA1 wd_140 (gA1 wd_141 (gA1 wd_14 (gA1 wd_142 gA)))), by decide +kernel, by decide +kernel, by decide +kernel⟩
theorem lk_X6_81 : zLs RX6 81 yJ6_bitCount_0f7a4 cJ6_bitCount_0f7a4 1 (some .int) 1 := ⟨gA1 wd_144 (gA1 wd_145 (gA1 wd_146 (gA1 wd_147 gA))), by decide +kernel, by decide +kernel, by decide +kernel⟩
theorem lk_L_17 : zLv RL 17 yX8_rider cX8_rider 6 (some .int) 5 := ⟨gA1 wd_151 (gA1 wd_152 (gA1 wd_153 (gA1 wd_5 (gA1 wd_154 gA)))), by decide +kernel, by decide +kernel, by decide +kernel⟩
theorem lk_X8_90 : zLs RX8 90 yX8_isNumber cX8_isNumber 1 (some .boolean) 1 := ⟨gA1 wd_159 (gA1 wd_160 (gA1 wd_5 (gA1 wd_161 gA))), by decide +kernel, by decide +kernel, by decide +kernel⟩
theorem lk_X8_86 : zLs RX8 86 yX8_in cX8_in 6 (some .boolean) 3 := ⟨gA1 wd_163 (gA1 wd_164 (gA1 wd_5 (gA1 wd_165 gA))), by decide +kernel, by decide +kernel, by decide +kernel⟩
theorem lk_X8_99 : zLs RX8 99 yX8_isBeat cX8_isBeat 1 (some .boolean) 1 := ⟨gA1 wd_166 (gA1 wd_167 (gA1 wd_5 (gA1 wd_168 gA))), by decide +kernel, by decide +kernel, by decide +kernel⟩
theorem lk_X8_106 : zLs RX8 106 yX8_ones cX8_ones 3 (some .int) 1 := ⟨gA1 wd_171 (gA1 wd_172 (gA1 wd_5 (gA1 wd_173 gA))), by decide +kernel, by decide +kernel, by decide +kernel⟩
theorem lk_L_18 : zLv RL 18 yX7_leave cX7_leave 2 (some .int) 1 := ⟨gA1 wd_174 (gA1 wd_175 (gA1 wd_176 (gA1 wd_2 (gA1 wd_177 gA)))), by decide +kernel, by decide +kernel, by decide +kernel⟩
theorem lk_X7_70 : zLv RX7 70 yX6_isThere cX6_isThere 2 (some .boolean) 1 := ⟨gA1 wd_179 (gA1 wd_180 (gA1 wd_181 (gA1 wd_14 (gA1 wd_182 gA)))), by decide +kernel, by decide +kernel, by decide +kernel⟩
theorem lk_L_22 : zLv RL 22 yX8_leave cX8_leave 2 (some .int) 1 := ⟨gA1 wd_183 (gA1 wd_184 (gA1 wd_185 (gA1 wd_5 (gA1 wd_186 gA)))), by decide +kernel, by decide +kernel, by decide +kernel⟩
theorem lk_X8_110 : zLv RX8 110 yX8_isThere cX8_isThere 2 (some .boolean) 1 := ⟨gA1 wd_187 (gA1 wd_188 (gA1 wd_189 (gA1 wd_5 (gA1 wd_190 gA)))), by decide +kernel, by decide +kernel, by decide +kernel⟩
theorem lk_L_23 : zLv RL 23 yX7_seat cX7_seat 3 (some .int) 2 := ⟨gA1 wd_191 (gA1 wd_192 (gA1 wd_193 (gA1 wd_2 (gA1 wd_194 gA)))), by decide +kernel, by decide +kernel, by decide +kernel⟩
theorem lk_L_27 : zLv RL 27 yX8_seat cX8_seat 3 (some .int) 2 := ⟨gA1 wd_197 (gA1 wd_198 (gA1 wd_199 (gA1 wd_5 (gA1 wd_200 gA)))), by decide +kernel, by decide +kernel, by decide +kernel⟩
theorem lk_L_28 : zLv RL 28 yX7_set cX7_set 4 (some .int) 2 := ⟨gA1 wd_202 (gA1 wd_203 (gA1 wd_204 (gA1 wd_2 (gA1 wd_205 gA)))), by decide +kernel, by decide +kernel, by decide +kernel⟩
theorem lk_L_31 : zLv RL 31 yX8_set cX8_set 5 (some .int) 2 := ⟨gA1 wd_209 (gA1 wd_210 (gA1 wd_211 (gA1 wd_5 (gA1 wd_212 gA)))), by decide +kernel, by decide +kernel, by decide +kernel⟩
theorem lk_L_32 : zLv RL 32 yX7_say cX7_say 2 (some .int) 1 := ⟨gA1 wd_215 (gA1 wd_216 (gA1 wd_217 (gA1 wd_2 (gA1 wd_218 gA)))), by decide +kernel, by decide +kernel, by decide +kernel⟩
theorem lk_X7_97 : zLv RX7 97 yX1_add cX1_add 2 none 1 := ⟨gA1 wd_220 (gA1 wd_221 (gA1 wd_222 (gA1 wd_21 (gA1 wd_223 gA)))), by decide +kernel, by decide +kernel, by decide +kernel⟩
theorem lk_L_35 : zLv RL 35 yX8_say cX8_say 2 (some .int) 1 := ⟨gA1 wd_225 (gA1 wd_226 (gA1 wd_227 (gA1 wd_5 (gA1 wd_228 gA)))), by decide +kernel, by decide +kernel, by decide +kernel⟩
theorem lk_L_36 : zLv RL 36 yX7_wipe cX7_wipe 2 (some .int) 0 := ⟨gA1 wd_232 (gA1 wd_233 (gA1 wd_234 (gA1 wd_2 (gA1 wd_235 gA)))), by decide +kernel, by decide +kernel, by decide +kernel⟩
theorem lk_L_40 : zLv RL 40 yX8_wipe cX8_wipe 2 (some .int) 0 := ⟨gA1 wd_236 (gA1 wd_237 (gA1 wd_238 (gA1 wd_5 (gA1 wd_239 gA)))), by decide +kernel, by decide +kernel, by decide +kernel⟩
theorem lk_L_41 : zLv RL 41 yX7_fault cX7_fault 2 (some .int) 1 := ⟨gA1 wd_240 (gA1 wd_241 (gA1 wd_242 (gA1 wd_2 (gA1 wd_243 gA)))), by decide +kernel, by decide +kernel, by decide +kernel⟩
theorem lk_X7_101 : zLv RX7 101 yX1_faultAsWay cX1_faultAsWay 2 (some .int) 0 := ⟨gA1 wd_245 (gA1 wd_246 (gA1 wd_247 (gA1 wd_21 (gA1 wd_248 gA)))), by decide +kernel, by decide +kernel, by decide +kernel⟩
theorem lk_X1_19 : zLv RX1 19 yX1_signAt cX1_signAt 2 (some .int) 1 := ⟨gA1 wd_249 (gA1 wd_250 (gA1 wd_251 (gA1 wd_21 (gA1 wd_252 gA)))), by decide +kernel, by decide +kernel, by decide +kernel⟩
theorem lk_X1_23 : zLs RX1 23 yX0_sortOf cX0_sortOf 1 (some .int) 1 := ⟨gA1 wd_253 (gA1 wd_254 (gA1 wd_255 (gA1 wd_256 gA))), by decide +kernel, by decide +kernel, by decide +kernel⟩
theorem lk_X7_107 : zLv RX7 107 yX2_read cX2_read 5 (some .int) 2 := ⟨gA1 wd_257 (gA1 wd_258 (gA1 wd_259 (gA1 wd_25 (gA1 wd_260 gA)))), by decide +kernel, by decide +kernel, by decide +kernel⟩
theorem lk_X2_25 : zLv RX2 25 yX1_signAt cX1_signAt 2 (some .int) 1 := ⟨gA1 wd_262 (gA1 wd_250 (gA1 wd_251 (gA1 wd_21 (gA1 wd_252 gA)))), by decide +kernel, by decide +kernel, by decide +kernel⟩
theorem lk_L_44 : zLv RL 44 yX8_fault cX8_fault 2 (some .int) 1 := ⟨gA1 wd_265 (gA1 wd_266 (gA1 wd_267 (gA1 wd_5 (gA1 wd_268 gA)))), by decide +kernel, by decide +kernel, by decide +kernel⟩
theorem lk_X8_138 : zLv RX8 138 yX8_faultOfWay cX8_faultOfWay 2 (some .int) 0 := ⟨gA1 wd_269 (gA1 wd_270 (gA1 wd_271 (gA1 wd_5 (gA1 wd_272 gA)))), by decide +kernel, by decide +kernel, by decide +kernel⟩
theorem lk_X8_127 : zLs RX8 127 yX8_isSort cX8_isSort 1 (some .boolean) 1 := ⟨gA1 wd_273 (gA1 wd_274 (gA1 wd_5 (gA1 wd_275 gA))), by decide +kernel, by decide +kernel, by decide +kernel⟩
theorem lk_X8_142 : zLv RX8 142 yX8_faultOfPlan cX8_faultOfPlan 7 (some .int) 0 := ⟨gA1 wd_276 (gA1 wd_277 (gA1 wd_278 (gA1 wd_5 (gA1 wd_279 gA)))), by decide +kernel, by decide +kernel, by decide +kernel⟩
theorem lk_L_45 : zLv RL 45 yX7_way cX7_way 1 (some .int) 0 := ⟨gA1 wd_284 (gA1 wd_285 (gA1 wd_286 (gA1 wd_2 (gA1 wd_287 gA)))), by decide +kernel, by decide +kernel, by decide +kernel⟩
theorem lk_X7_111 : zLv RX7 111 yX6_takeWay cX6_takeWay 3 none 1 := ⟨gA1 wd_288 (gA1 wd_289 (gA1 wd_290 (gA1 wd_14 (gA1 wd_291 gA)))), by decide +kernel, by decide +kernel, by decide +kernel⟩
theorem lk_X6_101 : zLv RX6 101 yX1_signAt cX1_signAt 2 (some .int) 1 := ⟨gA1 wd_300 (gA1 wd_250 (gA1 wd_251 (gA1 wd_21 (gA1 wd_252 gA)))), by decide +kernel, by decide +kernel, by decide +kernel⟩
theorem lk_X6_104 : zLs RX6 104 yX0_sortOf cX0_sortOf 1 (some .int) 1 := ⟨gA1 wd_301 (gA1 wd_254 (gA1 wd_255 (gA1 wd_256 gA))), by decide +kernel, by decide +kernel, by decide +kernel⟩
theorem lk_L_48 : zLv RL 48 yX8_way cX8_way 2 (some .int) 0 := ⟨gA1 wd_302 (gA1 wd_303 (gA1 wd_304 (gA1 wd_5 (gA1 wd_305 gA)))), by decide +kernel, by decide +kernel, by decide +kernel⟩
theorem lk_L_49 : zLv RL 49 yX7_tread cX7_tread 4 (some .int) 3 := ⟨gA1 wd_306 (gA1 wd_307 (gA1 wd_308 (gA1 wd_2 (gA1 wd_309 gA)))), by decide +kernel, by decide +kernel, by decide +kernel⟩
theorem lk_X7_115 : zLs RX7 115 yX7_isEffort cX7_isEffort 1 (some .boolean) 1 := ⟨gA1 wd_310 (gA1 wd_263 (gA1 wd_2 (gA1 wd_264 gA))), by decide +kernel, by decide +kernel, by decide +kernel⟩
theorem lk_X7_118 : zLv RX7 118 yX4_treads cX4_treads 3 (some .int) 2 := ⟨gA1 wd_311 (gA1 wd_312 (gA1 wd_313 (gA1 wd_56 (gA1 wd_314 gA)))), by decide +kernel, by decide +kernel, by decide +kernel⟩
theorem lk_L_53 : zLv RL 53 yX8_tread cX8_tread 4 (some .int) 3 := ⟨gA1 wd_318 (gA1 wd_319 (gA1 wd_320 (gA1 wd_5 (gA1 wd_321 gA)))), by decide +kernel, by decide +kernel, by decide +kernel⟩
theorem lk_X8_149 : zLs RX8 149 yX8_isEffort cX8_isEffort 1 (some .boolean) 1 := ⟨gA1 wd_322 (gA1 wd_323 (gA1 wd_5 (gA1 wd_324 gA))), by decide +kernel, by decide +kernel, by decide +kernel⟩
theorem lk_X8_152 : zLv RX8 152 yX8_treadOf cX8_treadOf 5 (some .int) 3 := ⟨gA1 wd_325 (gA1 wd_326 (gA1 wd_327 (gA1 wd_5 (gA1 wd_328 gA)))), by decide +kernel, by decide +kernel, by decide +kernel⟩
theorem lk_L_54 : zLv RL 54 yX7_judge cX7_judge 2 (some .int) 1 := ⟨gA1 wd_329 (gA1 wd_330 (gA1 wd_331 (gA1 wd_2 (gA1 wd_332 gA)))), by decide +kernel, by decide +kernel, by decide +kernel⟩
theorem lk_X7_122 : zLv RX7 122 yX7_areSeated cX7_areSeated 1 (some .boolean) 0 := ⟨gA1 wd_335 (gA1 wd_336 (gA1 wd_337 (gA1 wd_2 (gA1 wd_338 gA)))), by decide +kernel, by decide +kernel, by decide +kernel⟩
theorem lk_X7_126 : zLv RX7 126 yX3_go cX3_go 15 none 3 := ⟨gA1 wd_339 (gA1 wd_340 (gA1 wd_341 (gA1 wd_29 (gA1 wd_342 gA)))), by decide +kernel, by decide +kernel, by decide +kernel⟩
theorem lk_X3_24 : zLv RX3 24 yX6_riderInFront cX6_riderInFront 1 (some (.object "TandemRide$Rider")) 0 := ⟨gA1 wd_357 (gA1 wd_358 (gA1 wd_359 (gA1 wd_14 (gA1 wd_360 gA)))), by decide +kernel, by decide +kernel, by decide +kernel⟩
theorem lk_X3_30 : zLv RX3 30 yX6_riderInBack cX6_riderInBack 1 (some (.object "TandemRide$Rider")) 0 := ⟨gA1 wd_361 (gA1 wd_362 (gA1 wd_363 (gA1 wd_14 (gA1 wd_364 gA)))), by decide +kernel, by decide +kernel, by decide +kernel⟩
theorem lk_X3_39 : zLv RX3 39 yX3_start cX3_start 1 none 0 := ⟨gA1 wd_365 (gA1 wd_366 (gA1 wd_367 (gA1 wd_29 (gA1 wd_368 gA)))), by decide +kernel, by decide +kernel, by decide +kernel⟩
theorem lk_X3_57 : zLs RX3 57 yX4_windBehind cX4_windBehind 3 (some .int) 3 := ⟨gA1 wd_369 (gA1 wd_370 (gA1 wd_56 (gA1 wd_371 gA))), by decide +kernel, by decide +kernel, by decide +kernel⟩
theorem lk_X3_67 : zLs RX3 67 yX0_heatBehind cX0_heatBehind 2 (some .int) 2 := ⟨gA1 wd_373 (gA1 wd_374 (gA1 wd_255 (gA1 wd_375 gA))), by decide +kernel, by decide +kernel, by decide +kernel⟩
theorem lk_X3_76 : zLs RX3 76 yX3_reasonAgainst cX3_reasonAgainst 4 (some .int) 4 := ⟨gA1 wd_377 (gA1 wd_378 (gA1 wd_29 (gA1 wd_379 gA))), by decide +kernel, by decide +kernel, by decide +kernel⟩
theorem lk_X3_89 : zLv RX3 89 yX4_treads cX4_treads 3 (some .int) 2 := ⟨gA1 wd_380 (gA1 wd_312 (gA1 wd_313 (gA1 wd_56 (gA1 wd_314 gA)))), by decide +kernel, by decide +kernel, by decide +kernel⟩
theorem lk_X3_92 : zLs RX3 92 yX0_hardOf cX0_hardOf 1 (some .int) 1 := ⟨gA1 wd_381 (gA1 wd_382 (gA1 wd_255 (gA1 wd_383 gA))), by decide +kernel, by decide +kernel, by decide +kernel⟩
theorem lk_X3_96 : zLs RX3 96 yX0_secondsOf cX0_secondsOf 2 (some .int) 2 := ⟨gA1 wd_384 (gA1 wd_385 (gA1 wd_255 (gA1 wd_386 gA))), by decide +kernel, by decide +kernel, by decide +kernel⟩
theorem lk_L_57 : zLv RL 57 yX8_judge cX8_judge 2 (some .int) 1 := ⟨gA1 wd_387 (gA1 wd_388 (gA1 wd_389 (gA1 wd_5 (gA1 wd_390 gA)))), by decide +kernel, by decide +kernel, by decide +kernel⟩
theorem lk_X8_206 : zLv RX8 206 yX8_isNobody cX8_isNobody 1 (some .boolean) 0 := ⟨gA1 wd_393 (gA1 wd_394 (gA1 wd_395 (gA1 wd_5 (gA1 wd_396 gA)))), by decide +kernel, by decide +kernel, by decide +kernel⟩
theorem lk_X8_210 : zLv RX8 210 yX8_rideAll cX8_rideAll 1 none 0 := ⟨gA1 wd_397 (gA1 wd_398 (gA1 wd_399 (gA1 wd_5 (gA1 wd_400 gA)))), by decide +kernel, by decide +kernel, by decide +kernel⟩
theorem lk_X8_203 : zLv RX8 203 yX8_ride cX8_ride 3 none 1 := ⟨gA1 wd_401 (gA1 wd_402 (gA1 wd_403 (gA1 wd_5 (gA1 wd_404 gA)))), by decide +kernel, by decide +kernel, by decide +kernel⟩
theorem lk_X8_196 : zLv RX8 196 yX8_begin cX8_begin 1 none 0 := ⟨gA1 wd_405 (gA1 wd_406 (gA1 wd_407 (gA1 wd_5 (gA1 wd_408 gA)))), by decide +kernel, by decide +kernel, by decide +kernel⟩
theorem lk_X8_199 : zLv RX8 199 yX8_rideOne cX8_rideOne 5 none 1 := ⟨gA1 wd_415 (gA1 wd_416 (gA1 wd_417 (gA1 wd_5 (gA1 wd_418 gA)))), by decide +kernel, by decide +kernel, by decide +kernel⟩
theorem lk_X8_180 : zLv RX8 180 yX8_rest cX8_rest 1 none 0 := ⟨gA1 wd_419 (gA1 wd_420 (gA1 wd_421 (gA1 wd_5 (gA1 wd_422 gA)))), by decide +kernel, by decide +kernel, by decide +kernel⟩
theorem lk_X8_183 : zLv RX8 183 yX8_winded cX8_winded 5 (some .int) 3 := ⟨gA1 wd_423 (gA1 wd_424 (gA1 wd_425 (gA1 wd_5 (gA1 wd_426 gA)))), by decide +kernel, by decide +kernel, by decide +kernel⟩
theorem lk_X8_186 : zLs RX8 186 yX8_heated cX8_heated 3 (some .int) 2 := ⟨gA1 wd_427 (gA1 wd_428 (gA1 wd_5 (gA1 wd_429 gA))), by decide +kernel, by decide +kernel, by decide +kernel⟩
theorem lk_X8_190 : zLs RX8 190 yX8_hard cX8_hard 1 (some .int) 1 := ⟨gA1 wd_430 (gA1 wd_431 (gA1 wd_5 (gA1 wd_432 gA))), by decide +kernel, by decide +kernel, by decide +kernel⟩
theorem lk_X8_193 : zLs RX8 193 yX8_seconds cX8_seconds 2 (some .int) 2 := ⟨gA1 wd_433 (gA1 wd_434 (gA1 wd_5 (gA1 wd_435 gA))), by decide +kernel, by decide +kernel, by decide +kernel⟩
theorem lk_L_58 : zLv RL 58 yX7_ridden cX7_ridden 4 (some .int) 2 := ⟨gA1 wd_436 (gA1 wd_437 (gA1 wd_438 (gA1 wd_2 (gA1 wd_439 gA)))), by decide +kernel, by decide +kernel, by decide +kernel⟩
theorem lk_X7_136 : zLv RX7 136 yX7_planIsRidden cX7_planIsRidden 1 (some .boolean) 0 := ⟨gA1 wd_444 (gA1 wd_445 (gA1 wd_446 (gA1 wd_2 (gA1 wd_447 gA)))), by decide +kernel, by decide +kernel, by decide +kernel⟩
theorem lk_L_61 : zLv RL 61 yX8_ridden cX8_ridden 3 (some .int) 2 := ⟨gA1 wd_448 (gA1 wd_449 (gA1 wd_450 (gA1 wd_5 (gA1 wd_451 gA)))), by decide +kernel, by decide +kernel, by decide +kernel⟩
theorem lk_X8_215 : zLv RX8 215 yX8_isRefused cX8_isRefused 1 (some .boolean) 0 := ⟨gA1 wd_453 (gA1 wd_454 (gA1 wd_455 (gA1 wd_5 (gA1 wd_456 gA)))), by decide +kernel, by decide +kernel, by decide +kernel⟩
theorem lk_L_62 : zLv RL 62 yX7_share cX7_share 3 (some .long) 1 := ⟨gA1 wd_457 (gA1 wd_458 (gA1 wd_459 (gA1 wd_2 (gA1 wd_460 gA)))), by decide +kernel, by decide +kernel, by decide +kernel⟩
theorem lk_X7_164 : zLs RX7 164 yX7_fractionPart cX7_fractionPart 12 (some .long) 3 := ⟨gA1 wd_466 (gA1 wd_467 (gA1 wd_2 (gA1 wd_468 gA))), by decide +kernel, by decide +kernel, by decide +kernel⟩
theorem lk_L_66 : zLv RL 66 yX8_share cX8_share 3 (some .long) 1 := ⟨gA1 wd_469 (gA1 wd_470 (gA1 wd_471 (gA1 wd_5 (gA1 wd_472 gA)))), by decide +kernel, by decide +kernel, by decide +kernel⟩
theorem lk_X8_224 : zLs RX8 224 yX8_lowest cX8_lowest 11 (some .long) 3 := ⟨gA1 wd_476 (gA1 wd_477 (gA1 wd_5 (gA1 wd_478 gA))), by decide +kernel, by decide +kernel, by decide +kernel⟩
theorem lk_L_67 : zLv RL 67 yX7_unseen cX7_unseen 1 (some .int) 0 := ⟨gA1 wd_479 (gA1 wd_480 (gA1 wd_481 (gA1 wd_2 (gA1 wd_482 gA)))), by decide +kernel, by decide +kernel, by decide +kernel⟩
theorem lk_L_70 : zLv RL 70 yX8_unseen cX8_unseen 6 (some .int) 0 := ⟨gA1 wd_484 (gA1 wd_485 (gA1 wd_486 (gA1 wd_5 (gA1 wd_487 gA)))), by decide +kernel, by decide +kernel, by decide +kernel⟩
theorem lk_L_71 : zLv RL 71 yX7_soonest cX7_soonest 2 (some .int) 1 := ⟨gA1 wd_488 (gA1 wd_489 (gA1 wd_490 (gA1 wd_2 (gA1 wd_491 gA)))), by decide +kernel, by decide +kernel, by decide +kernel⟩
theorem lk_X7_171 : zLv RX7 171 yX6_riderInFront cX6_riderInFront 1 (some (.object "TandemRide$Rider")) 0 := ⟨gA1 wd_494 (gA1 wd_358 (gA1 wd_359 (gA1 wd_14 (gA1 wd_360 gA)))), by decide +kernel, by decide +kernel, by decide +kernel⟩
theorem lk_X7_175 : zLv RX7 175 yX6_riderInBack cX6_riderInBack 1 (some (.object "TandemRide$Rider")) 0 := ⟨gA1 wd_495 (gA1 wd_362 (gA1 wd_363 (gA1 wd_14 (gA1 wd_364 gA)))), by decide +kernel, by decide +kernel, by decide +kernel⟩
theorem lk_X7_178 : zLv RX7 178 yX5_seek cX5_seek 6 none 3 := ⟨gA1 wd_496 (gA1 wd_497 (gA1 wd_498 (gA1 wd_33 (gA1 wd_499 gA)))), by decide +kernel, by decide +kernel, by decide +kernel⟩
theorem lk_X5_61 : zLv RX5 61 yX5_findHeats cX5_findHeats 6 none 1 := ⟨gA1 wd_512 (gA1 wd_513 (gA1 wd_514 (gA1 wd_33 (gA1 wd_515 gA)))), by decide +kernel, by decide +kernel, by decide +kernel⟩
theorem lk_X5_94 : zLs RX5 94 yX0_heatBehind cX0_heatBehind 2 (some .int) 2 := ⟨gA1 wd_516 (gA1 wd_374 (gA1 wd_255 (gA1 wd_375 gA))), by decide +kernel, by decide +kernel, by decide +kernel⟩
theorem lk_X5_74 : zLv RX5 74 yX5_stepAhead cX5_stepAhead 9 none 3 := ⟨gA1 wd_517 (gA1 wd_518 (gA1 wd_519 (gA1 wd_33 (gA1 wd_520 gA)))), by decide +kernel, by decide +kernel, by decide +kernel⟩
theorem lk_X5_85 : zLs RX5 85 yX0_hardOf cX0_hardOf 1 (some .int) 1 := ⟨gA1 wd_522 (gA1 wd_382 (gA1 wd_255 (gA1 wd_383 gA))), by decide +kernel, by decide +kernel, by decide +kernel⟩
theorem lk_X5_98 : zLv RX5 98 yX5_listChoices cX5_listChoices 4 none 1 := ⟨gA1 wd_523 (gA1 wd_524 (gA1 wd_525 (gA1 wd_33 (gA1 wd_526 gA)))), by decide +kernel, by decide +kernel, by decide +kernel⟩
theorem lk_X5_114 : zLs RX5 114 yX0_secondsOf cX0_secondsOf 2 (some .int) 2 := ⟨gA1 wd_528 (gA1 wd_385 (gA1 wd_255 (gA1 wd_386 gA))), by decide +kernel, by decide +kernel, by decide +kernel⟩
theorem lk_X5_103 : zLv RX5 103 yX5_fewestOnward cX5_fewestOnward 9 (some .int) 4 := ⟨gA1 wd_529 (gA1 wd_530 (gA1 wd_531 (gA1 wd_33 (gA1 wd_532 gA)))), by decide +kernel, by decide +kernel, by decide +kernel⟩
theorem lk_X5_117 : zLs RX5 117 yX4_windBehind cX4_windBehind 3 (some .int) 3 := ⟨gA1 wd_534 (gA1 wd_370 (gA1 wd_56 (gA1 wd_371 gA))), by decide +kernel, by decide +kernel, by decide +kernel⟩
theorem lk_X5_107 : zLs RX5 107 yX5_cellOf cX5_cellOf 3 (some .int) 3 := ⟨gA1 wd_535 (gA1 wd_536 (gA1 wd_33 (gA1 wd_537 gA))), by decide +kernel, by decide +kernel, by decide +kernel⟩
theorem lk_X5_78 : zLv RX5 78 yX5_chooseFirst cX5_chooseFirst 9 (some .int) 1 := ⟨gA1 wd_538 (gA1 wd_539 (gA1 wd_540 (gA1 wd_33 (gA1 wd_541 gA)))), by decide +kernel, by decide +kernel, by decide +kernel⟩
theorem lk_X5_90 : zLv RX5 90 yX5_leastBeatFor cX5_leastBeatFor 8 (some .int) 4 := ⟨gA1 wd_543 (gA1 wd_544 (gA1 wd_545 (gA1 wd_33 (gA1 wd_546 gA)))), by decide +kernel, by decide +kernel, by decide +kernel⟩
theorem lk_X5_128 : zLv RX5 128 yX4_treads cX4_treads 3 (some .int) 2 := ⟨gA1 wd_547 (gA1 wd_312 (gA1 wd_313 (gA1 wd_56 (gA1 wd_314 gA)))), by decide +kernel, by decide +kernel, by decide +kernel⟩
theorem lk_L_74 : zLv RL 74 yX8_soonest cX8_soonest 5 (some .int) 1 := ⟨gA1 wd_548 (gA1 wd_549 (gA1 wd_550 (gA1 wd_5 (gA1 wd_551 gA)))), by decide +kernel, by decide +kernel, by decide +kernel⟩
theorem lk_X8_252 : zLv RX8 252 yX8_soonestOf cX8_soonestOf 4 (some .int) 2 := ⟨gA1 wd_552 (gA1 wd_553 (gA1 wd_554 (gA1 wd_5 (gA1 wd_555 gA)))), by decide +kernel, by decide +kernel, by decide +kernel⟩
theorem lk_X8_248 : zLv RX8 248 yX8_goBack cX8_goBack 9 none 2 := ⟨gA1 wd_557 (gA1 wd_558 (gA1 wd_559 (gA1 wd_5 (gA1 wd_560 gA)))), by decide +kernel, by decide +kernel, by decide +kernel⟩
theorem lk_X8_240 : zLv RX8 240 yX8_findQuickest cX8_findQuickest 7 none 3 := ⟨gA1 wd_561 (gA1 wd_562 (gA1 wd_563 (gA1 wd_5 (gA1 wd_564 gA)))), by decide +kernel, by decide +kernel, by decide +kernel⟩
theorem lk_X8_229 : zLv RX8 229 yX8_secondsBy cX8_secondsBy 6 (some .int) 5 := ⟨gA1 wd_565 (gA1 wd_566 (gA1 wd_567 (gA1 wd_5 (gA1 wd_568 gA)))), by decide +kernel, by decide +kernel, by decide +kernel⟩
theorem lk_X8_244 : zLv RX8 244 yX8_bestFrom cX8_bestFrom 10 (some .int) 6 := ⟨gA1 wd_569 (gA1 wd_570 (gA1 wd_571 (gA1 wd_5 (gA1 wd_572 gA)))), by decide +kernel, by decide +kernel, by decide +kernel⟩
theorem lk_X8_236 : zLv RX8 236 yX8_secondsFrom cX8_secondsFrom 11 (some .int) 7 := ⟨gA1 wd_573 (gA1 wd_574 (gA1 wd_575 (gA1 wd_5 (gA1 wd_576 gA)))), by decide +kernel, by decide +kernel, by decide +kernel⟩
theorem lk_X8_233 : zLs RX8 233 yX8_stateOf cX8_stateOf 3 (some .int) 3 := ⟨gA1 wd_577 (gA1 wd_578 (gA1 wd_5 (gA1 wd_579 gA))), by decide +kernel, by decide +kernel, by decide +kernel⟩
theorem lk_L_75 : zLv RL 75 yX7_oneBeat cX7_oneBeat 8 (some .int) 3 := ⟨gA1 wd_580 (gA1 wd_581 (gA1 wd_582 (gA1 wd_2 (gA1 wd_583 gA)))), by decide +kernel, by decide +kernel, by decide +kernel⟩
theorem lk_X7_188 : zLv RX7 188 yX7_secondsAtBeat cX7_secondsAtBeat 5 (some .int) 3 := ⟨gA1 wd_584 (gA1 wd_585 (gA1 wd_586 (gA1 wd_2 (gA1 wd_587 gA)))), by decide +kernel, by decide +kernel, by decide +kernel⟩
theorem lk_X7_292 : zLv RX7 292 yX6_secondsTogether cX6_secondsTogether 4 (some .int) 1 := ⟨gA1 wd_588 (gA1 wd_589 (gA1 wd_590 (gA1 wd_14 (gA1 wd_591 gA)))), by decide +kernel, by decide +kernel, by decide +kernel⟩
theorem lk_X6_112 : zLs RX6 112 yX0_hardOf cX0_hardOf 1 (some .int) 1 := ⟨gA1 wd_592 (gA1 wd_382 (gA1 wd_255 (gA1 wd_383 gA))), by decide +kernel, by decide +kernel, by decide +kernel⟩
theorem lk_X6_115 : zLs RX6 115 yX0_secondsOf cX0_secondsOf 2 (some .int) 2 := ⟨gA1 wd_593 (gA1 wd_385 (gA1 wd_255 (gA1 wd_386 gA))), by decide +kernel, by decide +kernel, by decide +kernel⟩
theorem lk_X7_192 : zLv RX7 192 yX4_losesAt cX4_losesAt 3 (some .int) 2 := ⟨gA1 wd_594 (gA1 wd_595 (gA1 wd_596 (gA1 wd_56 (gA1 wd_597 gA)))), by decide +kernel, by decide +kernel, by decide +kernel⟩
theorem lk_X4_32 : zLv RX4 32 yX4_treadsAsLiked cX4_treadsAsLiked 2 (some .int) 1 := ⟨gA1 wd_598 (gA1 wd_599 (gA1 wd_600 (gA1 wd_56 (gA1 wd_601 gA)))), by decide +kernel, by decide +kernel, by decide +kernel⟩
theorem lk_X4_35 : zLv RX4 35 yX4_treads cX4_treads 3 (some .int) 2 := ⟨gA1 wd_602 (gA1 wd_312 (gA1 wd_313 (gA1 wd_56 (gA1 wd_314 gA)))), by decide +kernel, by decide +kernel, by decide +kernel⟩
theorem lk_L_78 : zLv RL 78 yX8_oneBeat cX8_oneBeat 7 (some .int) 3 := ⟨gA1 wd_603 (gA1 wd_604 (gA1 wd_605 (gA1 wd_5 (gA1 wd_606 gA)))), by decide +kernel, by decide +kernel, by decide +kernel⟩
theorem lk_X8_255 : zLv RX8 255 yX8_secondsAt cX8_secondsAt 5 (some .int) 2 := ⟨gA1 wd_607 (gA1 wd_608 (gA1 wd_609 (gA1 wd_5 (gA1 wd_610 gA)))), by decide +kernel, by decide +kernel, by decide +kernel⟩
theorem lk_X8_258 : zLv RX8 258 yX8_lost cX8_lost 4 (some .int) 3 := ⟨gA1 wd_611 (gA1 wd_612 (gA1 wd_613 (gA1 wd_5 (gA1 wd_614 gA)))), by decide +kernel, by decide +kernel, by decide +kernel⟩
theorem lk_L_79 : zLv RL 79 yX7_single cX7_single 3 (some .int) 2 := ⟨gA1 wd_615 (gA1 wd_616 (gA1 wd_617 (gA1 wd_2 (gA1 wd_618 gA)))), by decide +kernel, by decide +kernel, by decide +kernel⟩
theorem lk_X7_195 : zLv RX7 195 yX4_treadsAsLiked cX4_treadsAsLiked 2 (some .int) 1 := ⟨gA1 wd_619 (gA1 wd_599 (gA1 wd_600 (gA1 wd_56 (gA1 wd_601 gA)))), by decide +kernel, by decide +kernel, by decide +kernel⟩
theorem lk_X7_199 : zLv RX7 199 yX6_secondsAlone cX6_secondsAlone 4 (some .int) 1 := ⟨gA1 wd_620 (gA1 wd_621 (gA1 wd_622 (gA1 wd_14 (gA1 wd_623 gA)))), by decide +kernel, by decide +kernel, by decide +kernel⟩
theorem lk_L_82 : zLv RL 82 yX8_single cX8_single 5 (some .int) 2 := ⟨gA1 wd_624 (gA1 wd_625 (gA1 wd_626 (gA1 wd_5 (gA1 wd_627 gA)))), by decide +kernel, by decide +kernel, by decide +kernel⟩
theorem lk_X8_261 : zLv RX8 261 yX8_alone cX8_alone 4 (some .int) 3 := ⟨gA1 wd_628 (gA1 wd_629 (gA1 wd_630 (gA1 wd_5 (gA1 wd_631 gA)))), by decide +kernel, by decide +kernel, by decide +kernel⟩
theorem lk_L_83 : zLv RL 83 yX7_sorts cX7_sorts 7 (some .int) 1 := ⟨gA1 wd_632 (gA1 wd_633 (gA1 wd_634 (gA1 wd_2 (gA1 wd_635 gA)))), by decide +kernel, by decide +kernel, by decide +kernel⟩
theorem lk_X7_202 : zLs RX7 202 yX7_mostTreads cX7_mostTreads 6 (some .int) 4 := ⟨gA1 wd_636 (gA1 wd_509 (gA1 wd_2 (gA1 wd_510 gA))), by decide +kernel, by decide +kernel, by decide +kernel⟩
theorem lk_X7_211 : zLs RX7 211 yX0_hardOf cX0_hardOf 1 (some .int) 1 := ⟨gA1 wd_637 (gA1 wd_382 (gA1 wd_255 (gA1 wd_383 gA))), by decide +kernel, by decide +kernel, by decide +kernel⟩
theorem lk_X7_216 : zLs RX7 216 yX0_secondsOf cX0_secondsOf 2 (some .int) 2 := ⟨gA1 wd_638 (gA1 wd_385 (gA1 wd_255 (gA1 wd_386 gA))), by decide +kernel, by decide +kernel, by decide +kernel⟩
theorem lk_L_86 : zLv RL 86 yX8_sorts cX8_sorts 6 (some .int) 1 := ⟨gA1 wd_639 (gA1 wd_640 (gA1 wd_641 (gA1 wd_5 (gA1 wd_642 gA)))), by decide +kernel, by decide +kernel, by decide +kernel⟩
theorem lk_X8_264 : zLs RX8 264 yX8_sortOf cX8_sortOf 1 (some .int) 1 := ⟨gA1 wd_643 (gA1 wd_644 (gA1 wd_5 (gA1 wd_645 gA))), by decide +kernel, by decide +kernel, by decide +kernel⟩
theorem lk_L_87 : zLv RL 87 yX7_uneven cX7_uneven 4 (some .int) 3 := ⟨gA1 wd_646 (gA1 wd_647 (gA1 wd_648 (gA1 wd_2 (gA1 wd_649 gA)))), by decide +kernel, by decide +kernel, by decide +kernel⟩
theorem lk_X7_219 : zLv RX7 219 yX7_unevenness cX7_unevenness 10 (some .int) 3 := ⟨gA1 wd_650 (gA1 wd_651 (gA1 wd_652 (gA1 wd_2 (gA1 wd_653 gA)))), by decide +kernel, by decide +kernel, by decide +kernel⟩
theorem lk_X7_295 : zLs RX7 295 yX7_crankAt cX7_crankAt 1 (some .int) 1 := ⟨gA1 wd_657 (gA1 wd_658 (gA1 wd_2 (gA1 wd_659 gA))), by decide +kernel, by decide +kernel, by decide +kernel⟩
theorem lk_L_90 : zLv RL 90 yX8_uneven cX8_uneven 4 (some .int) 3 := ⟨gA1 wd_661 (gA1 wd_662 (gA1 wd_663 (gA1 wd_5 (gA1 wd_664 gA)))), by decide +kernel, by decide +kernel, by decide +kernel⟩
theorem lk_X8_272 : zLv RX8 272 yX8_unevenBy cX8_unevenBy 8 (some .int) 3 := ⟨gA1 wd_666 (gA1 wd_667 (gA1 wd_668 (gA1 wd_5 (gA1 wd_669 gA)))), by decide +kernel, by decide +kernel, by decide +kernel⟩
theorem lk_X8_267 : zLs RX8 267 yX8_fromSix cX8_fromSix 1 (some .int) 1 := ⟨gA1 wd_670 (gA1 wd_671 (gA1 wd_5 (gA1 wd_672 gA))), by decide +kernel, by decide +kernel, by decide +kernel⟩
theorem lk_L_91 : zLv RL 91 yX7_evenest cX7_evenest 7 (some .int) 2 := ⟨gA1 wd_673 (gA1 wd_674 (gA1 wd_675 (gA1 wd_2 (gA1 wd_676 gA)))), by decide +kernel, by decide +kernel, by decide +kernel⟩
theorem lk_L_94 : zLv RL 94 yX8_evenest cX8_evenest 5 (some .int) 2 := ⟨gA1 wd_677 (gA1 wd_678 (gA1 wd_679 (gA1 wd_5 (gA1 wd_680 gA)))), by decide +kernel, by decide +kernel, by decide +kernel⟩
theorem lk_L_95 : zLv RL 95 yX7_calls cX7_calls 4 (some .int) 2 := ⟨gA1 wd_681 (gA1 wd_682 (gA1 wd_683 (gA1 wd_2 (gA1 wd_684 gA)))), by decide +kernel, by decide +kernel, by decide +kernel⟩
theorem lk_X7_222 : zLv RX7 222 yX6_corners cX6_corners 1 (some .int) 0 := ⟨gA1 wd_686 (gA1 wd_687 (gA1 wd_688 (gA1 wd_14 (gA1 wd_689 gA)))), by decide +kernel, by decide +kernel, by decide +kernel⟩
theorem lk_X6_109 : zLv RX6 109 yX6_stretchesOf cX6_stretchesOf 4 (some .int) 1 := ⟨gA1 wd_690 (gA1 wd_691 (gA1 wd_692 (gA1 wd_14 (gA1 wd_693 gA)))), by decide +kernel, by decide +kernel, by decide +kernel⟩
theorem lk_X7_225 : zLv RX7 225 yX6_bumps cX6_bumps 1 (some .int) 0 := ⟨gA1 wd_694 (gA1 wd_695 (gA1 wd_696 (gA1 wd_14 (gA1 wd_697 gA)))), by decide +kernel, by decide +kernel, by decide +kernel⟩
theorem lk_X7_228 : zLv RX7 228 yX5_fewestCalls cX5_fewestCalls 8 (some .int) 2 := ⟨gA1 wd_698 (gA1 wd_699 (gA1 wd_700 (gA1 wd_33 (gA1 wd_701 gA)))), by decide +kernel, by decide +kernel, by decide +kernel⟩
theorem lk_X5_131 : zLs RX5 131 yX0_soreBehind cX0_soreBehind 2 (some .int) 2 := ⟨gA1 wd_703 (gA1 wd_704 (gA1 wd_255 (gA1 wd_705 gA))), by decide +kernel, by decide +kernel, by decide +kernel⟩
theorem lk_X5_134 : zLv RX5 134 yX5_keepFewer cX5_keepFewer 3 none 2 := ⟨gA1 wd_706 (gA1 wd_707 (gA1 wd_708 (gA1 wd_33 (gA1 wd_709 gA)))), by decide +kernel, by decide +kernel, by decide +kernel⟩
theorem lk_L_98 : zLv RL 98 yX8_calls cX8_calls 6 (some .int) 2 := ⟨gA1 wd_710 (gA1 wd_711 (gA1 wd_712 (gA1 wd_5 (gA1 wd_713 gA)))), by decide +kernel, by decide +kernel, by decide +kernel⟩
theorem lk_X8_275 : zLv RX8 275 yX8_bumps cX8_bumps 3 (some .int) 0 := ⟨gA1 wd_714 (gA1 wd_715 (gA1 wd_716 (gA1 wd_5 (gA1 wd_717 gA)))), by decide +kernel, by decide +kernel, by decide +kernel⟩
theorem lk_X8_278 : zLv RX8 278 yX8_isBorne cX8_isBorne 8 (some .boolean) 2 := ⟨gA1 wd_718 (gA1 wd_719 (gA1 wd_720 (gA1 wd_5 (gA1 wd_721 gA)))), by decide +kernel, by decide +kernel, by decide +kernel⟩
theorem lk_X8_282 : zLv RX8 282 yX8_stretchesOf cX8_stretchesOf 5 (some .int) 1 := ⟨gA1 wd_722 (gA1 wd_723 (gA1 wd_724 (gA1 wd_5 (gA1 wd_725 gA)))), by decide +kernel, by decide +kernel, by decide +kernel⟩
theorem lk_L_99 : zLv RL 99 yX7_worth cX7_worth 3 (some .int) 0 := ⟨gA1 wd_726 (gA1 wd_727 (gA1 wd_728 (gA1 wd_2 (gA1 wd_729 gA)))), by decide +kernel, by decide +kernel, by decide +kernel⟩
theorem lk_X7_233 : zLv RX7 233 yX2_restsIn cX2_restsIn 3 (some .boolean) 1 := ⟨gA1 wd_730 (gA1 wd_731 (gA1 wd_732 (gA1 wd_25 (gA1 wd_733 gA)))), by decide +kernel, by decide +kernel, by decide +kernel⟩
theorem lk_L_102 : zLv RL 102 yX8_worth cX8_worth 4 (some .int) 0 := ⟨gA1 wd_734 (gA1 wd_735 (gA1 wd_736 (gA1 wd_5 (gA1 wd_737 gA)))), by decide +kernel, by decide +kernel, by decide +kernel⟩
theorem lk_L_103 : zLv RL 103 yX7_bestPair cX7_bestPair 6 (some .int) 1 := ⟨gA1 wd_738 (gA1 wd_739 (gA1 wd_740 (gA1 wd_2 (gA1 wd_741 gA)))), by decide +kernel, by decide +kernel, by decide +kernel⟩
theorem lk_L_106 : zLv RL 106 yX8_bestPair cX8_bestPair 8 (some .int) 1 := ⟨gA1 wd_742 (gA1 wd_743 (gA1 wd_744 (gA1 wd_5 (gA1 wd_745 gA)))), by decide +kernel, by decide +kernel, by decide +kernel⟩
theorem lk_L_107 : zLv RL 107 yX7_quarrel cX7_quarrel 7 (some .int) 1 := ⟨gA1 wd_746 (gA1 wd_747 (gA1 wd_748 (gA1 wd_2 (gA1 wd_749 gA)))), by decide +kernel, by decide +kernel, by decide +kernel⟩
theorem lk_X7_236 : zLv RX7 236 yX7_believedBy cX7_believedBy 5 (some .int) 2 := ⟨gA1 wd_750 (gA1 wd_751 (gA1 wd_752 (gA1 wd_2 (gA1 wd_753 gA)))), by decide +kernel, by decide +kernel, by decide +kernel⟩
theorem lk_L_110 : zLv RL 110 yX8_quarrel cX8_quarrel 5 (some .int) 1 := ⟨gA1 wd_755 (gA1 wd_756 (gA1 wd_757 (gA1 wd_5 (gA1 wd_758 gA)))), by decide +kernel, by decide +kernel, by decide +kernel⟩
theorem lk_X8_285 : zLv RX8 285 yX8_believed cX8_believed 5 (some .int) 2 := ⟨gA1 wd_759 (gA1 wd_760 (gA1 wd_761 (gA1 wd_5 (gA1 wd_762 gA)))), by decide +kernel, by decide +kernel, by decide +kernel⟩
theorem lk_L_111 : zLv RL 111 yX7_home cX7_home 8 (some .long) 3 := ⟨gA1 wd_763 (gA1 wd_764 (gA1 wd_765 (gA1 wd_2 (gA1 wd_766 gA)))), by decide +kernel, by decide +kernel, by decide +kernel⟩
theorem lk_X7_245 : zLs RX7 245 yX7_chancesOfSlips cX7_chancesOfSlips 8 (some .long) 3 := ⟨gA1 wd_769 (gA1 wd_770 (gA1 wd_2 (gA1 wd_771 gA))), by decide +kernel, by decide +kernel, by decide +kernel⟩
theorem lk_X7_251 : zLs RX7 251 yX7_power cX7_power 6 (some .long) 2 := ⟨gA1 wd_772 (gA1 wd_773 (gA1 wd_2 (gA1 wd_774 gA))), by decide +kernel, by decide +kernel, by decide +kernel⟩
theorem lk_L_115 : zLv RL 115 yX8_home cX8_home 9 (some .long) 3 := ⟨gA1 wd_775 (gA1 wd_776 (gA1 wd_777 (gA1 wd_5 (gA1 wd_778 gA)))), by decide +kernel, by decide +kernel, by decide +kernel⟩
theorem lk_X8_290 : zLv RX8 290 yX8_corners cX8_corners 3 (some .int) 0 := ⟨gA1 wd_781 (gA1 wd_782 (gA1 wd_783 (gA1 wd_5 (gA1 wd_784 gA)))), by decide +kernel, by decide +kernel, by decide +kernel⟩
theorem lk_X8_295 : zLs RX8 295 yX8_powers cX8_powers 5 (some .long) 2 := ⟨gA1 wd_785 (gA1 wd_786 (gA1 wd_5 (gA1 wd_787 gA))), by decide +kernel, by decide +kernel, by decide +kernel⟩
theorem lk_L_116 : zLv RL 116 yX7_mean cX7_mean 4 (some .long) 2 := ⟨gA1 wd_788 (gA1 wd_789 (gA1 wd_790 (gA1 wd_2 (gA1 wd_791 gA)))), by decide +kernel, by decide +kernel, by decide +kernel⟩
theorem lk_L_120 : zLv RL 120 yX8_mean cX8_mean 3 (some .long) 2 := ⟨gA1 wd_792 (gA1 wd_793 (gA1 wd_794 (gA1 wd_5 (gA1 wd_795 gA)))), by decide +kernel, by decide +kernel, by decide +kernel⟩
theorem lk_L_121 : zLv RL 121 yX7_time cX7_time 5 (some .int) 4 := ⟨gA1 wd_796 (gA1 wd_797 (gA1 wd_798 (gA1 wd_2 (gA1 wd_799 gA)))), by decide +kernel, by decide +kernel, by decide +kernel⟩
theorem lk_X7_258 : zLv RX7 258 yX6_addTime cX6_addTime 5 none 4 := ⟨gA1 wd_801 (gA1 wd_802 (gA1 wd_803 (gA1 wd_14 (gA1 wd_804 gA)))), by decide +kernel, by decide +kernel, by decide +kernel⟩
theorem lk_L_125 : zLv RL 125 yX8_time cX8_time 5 (some .int) 4 := ⟨gA1 wd_805 (gA1 wd_806 (gA1 wd_807 (gA1 wd_5 (gA1 wd_808 gA)))), by decide +kernel, by decide +kernel, by decide +kernel⟩
theorem lk_L_126 : zLv RL 126 yX7_forget cX7_forget 2 (some .int) 0 := ⟨gA1 wd_811 (gA1 wd_812 (gA1 wd_813 (gA1 wd_2 (gA1 wd_814 gA)))), by decide +kernel, by decide +kernel, by decide +kernel⟩
theorem lk_L_129 : zLv RL 129 yX8_forget cX8_forget 2 (some .int) 0 := ⟨gA1 wd_815 (gA1 wd_816 (gA1 wd_817 (gA1 wd_5 (gA1 wd_818 gA)))), by decide +kernel, by decide +kernel, by decide +kernel⟩
theorem lk_L_130 : zLv RL 130 yX7_strong cX7_strong 7 (some .int) 2 := ⟨gA1 wd_819 (gA1 wd_820 (gA1 wd_821 (gA1 wd_2 (gA1 wd_822 gA)))), by decide +kernel, by decide +kernel, by decide +kernel⟩
theorem lk_X7_261 : zLv RX7 261 yX6_timesHold cX6_timesHold 5 (some .boolean) 2 := ⟨gA1 wd_823 (gA1 wd_824 (gA1 wd_825 (gA1 wd_14 (gA1 wd_826 gA)))), by decide +kernel, by decide +kernel, by decide +kernel⟩
theorem lk_L_133 : zLv RL 133 yX8_strong cX8_strong 7 (some .int) 2 := ⟨gA1 wd_827 (gA1 wd_828 (gA1 wd_829 (gA1 wd_5 (gA1 wd_830 gA)))), by decide +kernel, by decide +kernel, by decide +kernel⟩
theorem lk_X8_306 : zLv RX8 306 yX8_holds cX8_holds 6 (some .boolean) 2 := ⟨gA1 wd_832 (gA1 wd_833 (gA1 wd_834 (gA1 wd_5 (gA1 wd_835 gA)))), by decide +kernel, by decide +kernel, by decide +kernel⟩
theorem lk_L_134 : zLv RL 134 yX7_year cX7_year 11 (some .int) 3 := ⟨gA1 wd_836 (gA1 wd_837 (gA1 wd_838 (gA1 wd_2 (gA1 wd_839 gA)))), by decide +kernel, by decide +kernel, by decide +kernel⟩
theorem lk_L_137 : zLv RL 137 yX8_year cX8_year 11 (some .int) 3 := ⟨gA1 wd_841 (gA1 wd_842 (gA1 wd_843 (gA1 wd_5 (gA1 wd_844 gA)))), by decide +kernel, by decide +kernel, by decide +kernel⟩
theorem lk_L_138 : zLv RL 138 yX7_image cX7_image 2 (some .int) 1 := ⟨gA1 wd_848 (gA1 wd_849 (gA1 wd_850 (gA1 wd_2 (gA1 wd_851 gA)))), by decide +kernel, by decide +kernel, by decide +kernel⟩
theorem lk_X7_267 : zLv RX7 267 yX6_copyFrom cX6_copyFrom 3 none 1 := ⟨gA1 wd_852 (gA1 wd_853 (gA1 wd_854 (gA1 wd_14 (gA1 wd_855 gA)))), by decide +kernel, by decide +kernel, by decide +kernel⟩
theorem lk_X6_59 : zLv RX6 59 yX4_copyFrom cX4_copyFrom 2 none 1 := ⟨gA1 wd_860 (gA1 wd_861 (gA1 wd_862 (gA1 wd_56 (gA1 wd_863 gA)))), by decide +kernel, by decide +kernel, by decide +kernel⟩
theorem lk_L_141 : zLv RL 141 yX8_image cX8_image 2 (some .int) 1 := ⟨gA1 wd_864 (gA1 wd_865 (gA1 wd_866 (gA1 wd_5 (gA1 wd_867 gA)))), by decide +kernel, by decide +kernel, by decide +kernel⟩
theorem lk_X8_325 : zLv RX8 325 yX8_passAll cX8_passAll 2 none 0 := ⟨gA1 wd_870 (gA1 wd_871 (gA1 wd_872 (gA1 wd_5 (gA1 wd_873 gA)))), by decide +kernel, by decide +kernel, by decide +kernel⟩
theorem lk_X8_322 : zLv RX8 322 yX8_pass cX8_pass 3 (some .int) 1 := ⟨gA1 wd_874 (gA1 wd_875 (gA1 wd_876 (gA1 wd_5 (gA1 wd_877 gA)))), by decide +kernel, by decide +kernel, by decide +kernel⟩
theorem lk_L_142 : zLv RL 142 yX7_restore cX7_restore 2 (some .int) 1 := ⟨gA1 wd_878 (gA1 wd_879 (gA1 wd_880 (gA1 wd_2 (gA1 wd_881 gA)))), by decide +kernel, by decide +kernel, by decide +kernel⟩
theorem lk_L_145 : zLv RL 145 yX8_restore cX8_restore 2 (some .int) 1 := ⟨gA1 wd_882 (gA1 wd_883 (gA1 wd_884 (gA1 wd_5 (gA1 wd_885 gA)))), by decide +kernel, by decide +kernel, by decide +kernel⟩
theorem lk_L_146 : zLv RL 146 yX7_told cX7_told 2 (some .int) 1 := ⟨gA1 wd_886 (gA1 wd_887 (gA1 wd_888 (gA1 wd_2 (gA1 wd_889 gA)))), by decide +kernel, by decide +kernel, by decide +kernel⟩
theorem lk_X7_271 : zLv RX7 271 yX6_riderBits cX6_riderBits 3 (some .int) 0 := ⟨gA1 wd_891 (gA1 wd_140 (gA1 wd_141 (gA1 wd_14 (gA1 wd_142 gA)))), by decide +kernel, by decide +kernel, by decide +kernel⟩
theorem lk_X7_277 : zLv RX7 277 yX7_toldOfRider cX7_toldOfRider 4 (some .int) 2 := ⟨gA1 wd_892 (gA1 wd_893 (gA1 wd_894 (gA1 wd_2 (gA1 wd_895 gA)))), by decide +kernel, by decide +kernel, by decide +kernel⟩
theorem lk_L_149 : zLv RL 149 yX8_told cX8_told 2 (some .int) 1 := ⟨gA1 wd_898 (gA1 wd_899 (gA1 wd_900 (gA1 wd_5 (gA1 wd_901 gA)))), by decide +kernel, by decide +kernel, by decide +kernel⟩
theorem lk_X8_330 : zLv RX8 330 yX8_toldOf cX8_toldOf 3 (some .int) 2 := ⟨gA1 wd_904 (gA1 wd_905 (gA1 wd_906 (gA1 wd_5 (gA1 wd_907 gA)))), by decide +kernel, by decide +kernel, by decide +kernel⟩
theorem lk_X2_31 : zLn RX2 31 yX7_isEffort cX7_isEffort 1 (some .boolean) 1 := ⟨fun _ h => h.2.2.2.1, gA1 wd_264 gA, wd_263, wd_2, by decide +kernel, by decide +kernel, by decide +kernel⟩
theorem lk_X2_35 : zLn RX2 35 yX7_isWithin cX7_isWithin 3 (some .boolean) 3 := ⟨fun _ h => h.2.2.2.2.1, gA1 wd_125 gA, wd_124, wd_2, by decide +kernel, by decide +kernel, by decide +kernel⟩
theorem lk_X5_57 : zLn RX5 57 yX7_mostTreads cX7_mostTreads 6 (some .int) 4 := ⟨fun _ h => h.2.2.2.2.2.1, gA1 wd_510 gA, wd_509, wd_2, by decide +kernel, by decide +kernel, by decide +kernel⟩
theorem lk_X6_69 : zLn RX6 69 yX7_isWithin cX7_isWithin 3 (some .boolean) 3 := ⟨fun _ h => h.2.2.2.2.2.2.2.1, gA1 wd_125 gA, wd_124, wd_2, by decide +kernel, by decide +kernel, by decide +kernel⟩
