/-! throws: contracts of a call that throws and leaves its world as it was; and of the callers that catch -/
abbrev xISE : String := "java/lang/IllegalStateException"
abbrev xIAE : String := "java/lang/IllegalArgumentException"
abbrev xNames : List String := ["java/lang/RuntimeException", "java/lang/Exception"]
def mDc (U : State) : Prop := va_Nw (.declares (Bundle.initS "java/lang/RuntimeException")) U ∧ va_Nw (.declares (Bundle.initS "java/lang/Exception")) U ∧ va_Nw (.declares (Bundle.initS Bundle.tN)) U
theorem mDc.same {u U : State} (h : u.vm = U.vm) (q : mDc u) : mDc U := ⟨va_Nw.same rfl h q.1, va_Nw.same rfl h q.2.1, va_Nw.same rfl h q.2.2⟩
theorem mDc.warm {s U : State} (hW : s.WarmedH U.vm) (q : mDc s) : mDc U := ⟨va_Nw.warmD hW q.1, va_Nw.warmD hW q.2.1, va_Nw.warmD hW q.2.2⟩
abbrev mWords (E : String) : List Cond := [.castable E E, .declares (Bundle.initS "java/lang/RuntimeException"), .declares (Bundle.initS "java/lang/Exception"), .declares (Bundle.initS Bundle.tN)]
def mEx (is : Nat) (text E : String) (A : Nat → Prop) (U : State) : Prop :=
  (va_Nw (.castable E E) U ∧ mDc U) ∧ (∃ sa, vk_R RX2 is text sa U) ∧ va_Nc xISE xIAE U ∧ vx_Zq Bundle.tN "UNASSIGNED_STACK" Bundle.steD A U U.heap ∧ vx_Zq Bundle.tN "SUPPRESSED_SENTINEL" Bundle.listD A U U.heap
def mPx (D : va_G) (I J : ClassId) (is : Nat) (text E : String) (av : List Value) (wc : va_W) (sz : Nat) : Array Value → State → Prop :=
  va_Pc av (fun U => (U.heap.size = sz ∧ va_P D vwCl wc U.heap ∧ va_K D vwCl (mTy I J) U ∧ va_D (fun _ => True) wc) ∧ mEx is text E (va_A wc sz) U)
theorem mEx.moved {is : Nat} {text E : String} {A : Nat → Prop} {u U : State} (hvm : U.vm = u.vm) (hh : U.heap = u.heap) (h : mEx is text E A u) : mEx is text E A U := by
  obtain ⟨h1, ⟨sa, h2⟩, h3, h4, h5⟩ := h
  have ha : u.vm.Alike U.vm := by rw [hvm]; exact Vm.Alike.refl u.vm
  exact ⟨⟨va_Nw.same rfl hvm.symm h1.1, h1.2.same hvm.symm⟩, ⟨sa, vk_R.same hvm h2⟩, va_Nc.moved ha h3, by rw [hh]; exact vx_Zq.moved ha h4, by rw [hh]; exact vx_Zq.moved ha h5⟩
theorem mEx.warm {is : Nat} {text E : String} {A A' : Nat → Prop} {s U : State} {locs : List Loc} {H : Heap} (h : mEx is text E A s) (hS : va_S A s.heap H locs) (hA : ∀ q, A' q → A q) (hU : U.heap = H) (hW : s.WarmedH U.vm) : mEx is text E A' U := by
  obtain ⟨h1, ⟨sa, h2⟩, h3, h4, h5⟩ := h
  refine ⟨⟨va_Nw.warmC hW h1.1, h1.2.warm hW⟩, ⟨sa, vk_R.warm hW h2⟩, va_Nc.moved hW.alike h3, ?_, ?_⟩
  · rw [hU]; exact vx_Zq.moved hW.alike ((h4.kept hS.2.1).narrow hA)
  · rw [hU]; exact vx_Zq.moved hW.alike ((h5.kept hS.2.1).narrow hA)
theorem mPx_blind {D : va_G} {I J : ClassId} {is : Nat} {text E : String} {av : List Value} {wc : va_W} {sz : Nat} : FrameBlind (mPx D I J is text E av wc sz) := fun a U g mk q => by
  obtain ⟨q0, ⟨q1, qP, qK, qD⟩, qX⟩ := q
  exact ⟨q0, ⟨q1, qP, va_K.moved (u := U) (U := U.calling g mk a) (Vm.Alike.refl U.vm) qK, qD⟩, qX.moved rfl rfl⟩
def mBX (D : va_G) (wc : va_W) (A : Nat → Prop) (E : String) : String → Unit → State → Prop := fun E' _ t => E' = E ∧ va_P D vwCl wc t.heap ∧ va_D A wc
abbrev mXX (D : va_G) (wc : va_W) (A : Nat → Prop) (E : String) : String → State → State → Prop := vx_X (fun _ : Unit => True) (mBX D wc A E) A
abbrev mQXi (D : va_G) (wc : va_W) (A : Nat → Prop) : Array Value → State → Outcome → State → Prop := va_Qi (fun (_ : Int32) (_ : Unit) => False) (mB D (fun _ => wc) A) A
abbrev mQXl (D : va_G) (wc : va_W) (A : Nat → Prop) : Array Value → State → Outcome → State → Prop := va_Ql (fun (_ : Int64) (_ : Unit) => False) (mB D (fun _ => wc) A) A
abbrev mQXv (D : va_G) (wc : va_W) (A : Nat → Prop) : Array Value → State → Outcome → State → Prop := va_Qv (fun (_ : Unit) => False) (mB D (fun _ => wc) A) A
def mXi (l : Launch) (y : MethodName) (ws : List Cond) (fr lo : Nat) (D : va_G) (I J : ClassId) (is : Nat) (text E : String) (av : List Value) (wc : va_W) (sz : Nat) : Prop :=
  vx_Met l y ws (mRm fr lo 1 6) (mPx D I J is text E av wc sz) (mQXi D wc (va_A wc sz)) (mXX D wc (va_A wc sz) E) 1 6 (va_A wc sz)
def mXl (l : Launch) (y : MethodName) (ws : List Cond) (fr lo : Nat) (D : va_G) (I J : ClassId) (is : Nat) (text E : String) (av : List Value) (wc : va_W) (sz : Nat) : Prop :=
  vx_Met l y ws (mRm fr lo 1 6) (mPx D I J is text E av wc sz) (mQXl D wc (va_A wc sz)) (mXX D wc (va_A wc sz) E) 1 6 (va_A wc sz)
def mXv (l : Launch) (y : MethodName) (ws : List Cond) (fr lo : Nat) (D : va_G) (I J : ClassId) (is : Nat) (text E : String) (av : List Value) (wc : va_W) (sz : Nat) : Prop :=
  vx_Met l y ws (mRm fr lo 1 6) (mPx D I J is text E av wc sz) (mQXv D wc (va_A wc sz)) (mXX D wc (va_A wc sz) E) 1 6 (va_A wc sz)
section MXBody
variable {l : Launch} {y : MethodName} {ws ws' : List Cond} {fr lo : Nat} {D : va_G} {I J : ClassId} {is : Nat} {text E : String} {av : List Value} {wc : va_W} {sz : Nat}
def mXBody (l : Launch) (y : MethodName) (ws : List Cond) (cc : ByteArray) (maxL : Nat) (ret : Option FieldType) (fr lo : Nat) (D : va_G) (I J : ClassId) (is : Nat) (text E : String) (av : List Value) (wc : va_W) (Qc : (Nat → Prop) → Array Value → State → Outcome → State → Prop) : Prop :=
  ∀ (p : Program) (e : Env) (s : State) (m : MethodId) (args : Array Value) (below : List Frame) (meth : Method) (c : Code) (A : Nat → Prop) (ls : Array Slot), p.tables.exec = Jvm.exec → c.code = cc → meth.sig.returnType = ret → meth.locks = false → c.maxLocals = maxL → (∀ w ∈ ws, w.before args s = true) → s.vm.findClass y.cls = some m.cls → meth.name = y.name →
    va_K D vwCl (mTy I J) s → va_P D vwCl wc s.heap → va_D A wc → (∀ q : Nat, s.heap.size ≤ q → A q) → va_S A s.heap s.heap [] → lv_has ls maxL (lv_args 0 av) → (∀ x ∈ c.exceptionTable.toList, False) → mEx is text E A s →
    W p l e (mRm fr lo 1 6) s m args below meth c s.heap [] 0 0 (vx_MQ below (Qc A) (mXX D wc A E) args s 1 6 A) (F0 m 0 ls [])
theorem m_enterX {cc : ByteArray} {maxL : Nat} {ret : Option FieldType} (Qc : (Nat → Prop) → Array Value → State → Outcome → State → Prop) (hy : plainName y.cls = true) (hw : ws = Cond.code y cc maxL ret :: ws') (hn : (lg_sl av).length ≤ maxL)
    (body : mXBody l y ws cc maxL ret fr lo D I J is text E av wc Qc) :
    vx_Met l y ws (mRm fr lo 1 6) (mPx D I J is text E av wc sz) (Qc (va_A wc sz)) (mXX D wc (va_A wc sz) E) 1 6 (va_A wc sz) := by
  refine vx_ofW (cc := cc) (maxL := maxL) (ret := ret) hy hw ?_
  intro p e s m args below meth c s₁ B hml htab hv
  obtain ⟨rfl, ⟨hsz, hP, hK, hD0⟩, hX⟩ := hv
  subst hsz
  have hD := hD0.self (sz := s.heap.size)
  rw [lg_entry_eq]
  exact body p e s m _ below meth c (va_A wc s.heap.size) _ B.exec B.bytes B.returns B.notSynchronized hml (atoms_spec (ws := ws) B.pre) (findClass_of_methodNamed B.named) (name_of_methodNamed B.named B.method).1 hK hP hD (fun q h => Or.inr h) va_S.rf (lv_entry av hn) htab hX
theorem m_ofXi {cc : ByteArray} {maxL : Nat} {ret : Option FieldType} (hy : plainName y.cls = true) (hw : ws = Cond.code y cc maxL ret :: ws') (hn : (lg_sl av).length ≤ maxL)
    (body : mXBody l y ws cc maxL ret fr lo D I J is text E av wc (mQXi D wc)) : mXi l y ws fr lo D I J is text E av wc sz := m_enterX (mQXi D wc) hy hw hn body
theorem m_ofXl {cc : ByteArray} {maxL : Nat} {ret : Option FieldType} (hy : plainName y.cls = true) (hw : ws = Cond.code y cc maxL ret :: ws') (hn : (lg_sl av).length ≤ maxL)
    (body : mXBody l y ws cc maxL ret fr lo D I J is text E av wc (mQXl D wc)) : mXl l y ws fr lo D I J is text E av wc sz := m_enterX (mQXl D wc) hy hw hn body
theorem m_ofXv {cc : ByteArray} {maxL : Nat} {ret : Option FieldType} (hy : plainName y.cls = true) (hw : ws = Cond.code y cc maxL ret :: ws') (hn : (lg_sl av).length ≤ maxL)
    (body : mXBody l y ws cc maxL ret fr lo D I J is text E av wc (mQXv D wc)) : mXv l y ws fr lo D I J is text E av wc sz := m_enterX (mQXv D wc) hy hw hn body
end MXBody
section MXRun
variable {p : Program} {l : Launch} {e : Env} {R : Room} {s : State} {m : MethodId} {args : Array Value} {below : List Frame} {meth : Method} {c : Code} {H : Heap} {locs : List Loc} {cells slots : Nat} {Q : State → Prop}
variable {cc : ByteArray} {pc : Nat} {ls : Array Slot} {rest st0 : List Value} {D : va_G} {A : Nat → Prop} {wc : va_W} {is : Nat} {text E : String} {Qc : Array Value → State → Outcome → State → Prop}
/-- 'throw new E("text")' out of a method without a table -/
theorem m_throw {ik ic nL : Nat} (hst : l.stackTraces = false) (hexec : p.tables.exec = Jvm.exec) (hb : c.code = cc) (hml : c.maxLocals = nL) (hsize : ls.size = nL) (hown : s.vm.findClass RX2 = some m.cls) (hlocks : meth.locks = false) (htab : ∀ x ∈ c.exceptionTable.toList, False) (hX : mEx is text E A s)
    (hP : va_P D vwCl wc H) (hD : va_D A wc) (hS : va_S A s.heap H locs)
    (hcls : Bundle.fit E = true) (hk : (Cond.classLink RX2 ik E).before args s = true) (hini : (Cond.initialized E).before args s = true) (h1 : ∀ w ∈ (vx_atS RX2 ic E xNames).filter goodWord, w.before args s = true) (h2 : ∀ w ∈ (vx_atS RX2 ic E xNames).filter (fun w => !goodWord w), w ∈ mWords E)
    (hgood : ∀ w ∈ Cond.classLink RX2 ik E :: Cond.initialized E :: vx_atS RX2 ic E xNames, vx_ot w = true)
    (d0 : decode cc pc = .ok (.new ik, 3)) (d3 : decode cc (pc + 3) = .ok (.dup, 1)) (d4 : decode cc (pc + 4) = .ok (.ldc is, 2)) (d6 : decode cc (pc + 6) = .ok (.invokespecial ic, 3)) (d9 : decode cc (pc + 9) = .ok (.athrow, 1))
    (hR : 5 < R.frames ∧ (rest.map fun v => v.category).sum + 82 ≤ R.locals) (hf : cells + 1 ≤ R.cells ∧ slots + 6 ≤ R.slots) (hc : cells + 1 ≤ 1 ∧ slots + 6 ≤ 6) :
    W p l e R s m args below meth c H locs cells slots (vx_MQ below Qc (mXX D wc A E) args s 1 6 A) (F0 m pc ls rest) := by
  obtain ⟨hca, ⟨sa, hstr⟩, -, hU, hN⟩ := id hX
  refine vx_throwS (names := xNames) hexec hb hst hown hcls (by decide +kernel) hk hini hstr (vx_hat h1 h2 (vx_c (va_Nw.use rfl hca.1) (vx_c (va_Nw.use rfl hca.2.1) (vx_c (va_Nw.use rfl hca.2.2.1) (vx_c (va_Nw.use rfl hca.2.2.2) vx_n))))) hgood hU hN hS (hsize.trans hml.symm) d0 d3 d4 d6 d9 (fun x hx => absurd (htab x hx) id) hR.1 hR.2 hf.1 hf.2 hlocks (fun t hvm hz hk9 => ?_) hS.2.2 hc.1 hc.2
  refine ⟨(), trivial, ⟨rfl, hP.kept (fun k q hq => hk9 q.1 (hP k q hq).lt), hD⟩, Nat.le_trans hS.1 hz, fun q h1 h2 => ?_⟩
  rw [hk9 q (Nat.lt_of_lt_of_le h1 hS.1)]
  exact hS.2.1 q h1 h2
/-- the same of mN_E -/
theorem m_throwN {ik nL : Nat} (hst : l.stackTraces = false) (hexec : p.tables.exec = Jvm.exec) (hb : c.code = cc) (hml : c.maxLocals = nL) (hsize : ls.size = nL) (hown : s.vm.findClass RX2 = some m.cls) (hlocks : meth.locks = false) (htab : ∀ x ∈ c.exceptionTable.toList, False) (hX : mEx is text mN_E A s)
    (hP : va_P D vwCl wc H) (hD : va_D A wc) (hS : va_S A s.heap H locs)
    (hcls : Bundle.fit mN_E = true) (hk : (Cond.classLink RX2 ik mN_E).before args s = true) (hini : (Cond.initialized mN_E).before args s = true) (h1 : ∀ w ∈ mN_at.filter goodWord, w.before args s = true) (h2 : ∀ w ∈ mN_at.filter (fun w => !goodWord w), w ∈ mWords mN_E)
    (hgood : ∀ w ∈ Cond.classLink RX2 ik mN_E :: Cond.initialized mN_E :: mN_at, vx_ot w = true)
    (d0 : decode cc pc = .ok (.new ik, 3)) (d3 : decode cc (pc + 3) = .ok (.dup, 1)) (d4 : decode cc (pc + 4) = .ok (.ldc is, 2)) (d6 : decode cc (pc + 6) = .ok (.invokespecial 136, 3)) (d9 : decode cc (pc + 9) = .ok (.athrow, 1))
    (hR : 5 < R.frames ∧ (rest.map fun v => v.category).sum + 82 ≤ R.locals) (hf : cells + 1 ≤ R.cells ∧ slots + 6 ≤ R.slots) (hc : cells + 1 ≤ 1 ∧ slots + 6 ≤ 6) :
    W p l e R s m args below meth c H locs cells slots (vx_MQ below Qc (mXX D wc A mN_E) args s 1 6 A) (F0 m pc ls rest) := by
  obtain ⟨hca, ⟨sa, hstr⟩, -, hU, hN⟩ := id hX
  refine mN_throw hexec hb hst hown hk hini hstr (vx_hat h1 h2 (vx_c (va_Nw.use rfl hca.1) (vx_c (va_Nw.use rfl hca.2.1) (vx_c (va_Nw.use rfl hca.2.2.1) (vx_c (va_Nw.use rfl hca.2.2.2) vx_n))))) hgood hU hN hS (hsize.trans hml.symm) d0 d3 d4 d6 d9 (fun x hx => absurd (htab x hx) id) hR.1 hR.2 hf.1 hf.2 hlocks (fun t hvm hz hk9 => ?_) hS.2.2 hc.1 hc.2
  refine ⟨(), trivial, ⟨rfl, hP.kept (fun k q hq => hk9 q.1 (hP k q hq).lt), hD⟩, Nat.le_trans hS.1 hz, fun q h1 h2 => ?_⟩
  rw [hk9 q (Nat.lt_of_lt_of_le h1 hS.1)]
  exact hS.2.1 q h1 h2
/-- what a callee threw goes on to the caller -/
theorem m_xout {E' : String} {ce : Cell} {q : Addr} (he : E' = E) (hlocks : meth.locks = false) (htab : ∀ x ∈ c.exceptionTable.toList, False) (hce : H[q]? = some ce) (hcv : ce.vm = .none) (hcl : s.vm.findClass E' = some ce.cls)
    (hP : va_P D vwCl wc H) (hD : va_D A wc) (hS : va_S A s.heap H locs) (hc : cells ≤ 1 ∧ slots ≤ 6) :
    vx_W p l e R s m args below meth c H locs cells slots (vx_MQ below Qc (mXX D wc A E) args s 1 6 A) (F0 m pc ls rest) q := by
  subst he
  refine vx_out (fun x hx => absurd (htab x hx) id) hlocks hce hcv hcl (fun t ht hvm => ⟨(), trivial, ⟨rfl, by rw [ht]; exact hP, hD⟩, hS.F ht⟩) hS.2.2 hc.1 hc.2
variable {nL index maxL n fr lo : Nat} {own C : String} {Ts wsy : List Cond} {y : MethodName} {bytes : ByteArray} {ret : Option FieldType} {I J : ClassId} {b : Nat} {As : List Value} {wsC wr : va_W}
theorem m_preVX (hX : mEx is text E A s) (hS : va_S A s.heap H locs) (hF : ∀ q, va_A wc H.size q → A q) (hK : va_K D vwCl (mTy I J) s) (hP : va_P D vwCl wsC H) (hD : va_D A wsC) (isC : List Nat) (hC : isC.map (fun i => wsC[i]?) = wc.map some) (hCn : va_nd isC = true) (k ci : Nat) {fs : List Value} {q : vw_C} (hc : vwCl[ci]? = some q) (he : wsC[k]? = some (b, .inr (ci, fs))) (hq : q.1 = C) :
    PreV s H C b (mPx D I J is text E (.ref b :: As) wc H.size) As :=
  ⟨mPx_blind, by rw [← hq]; exact va_recv hK hP hc he, fun U hU hW => ⟨rfl, ⟨by rw [hU], by rw [hU]; exact m_Psub hP isC hC, va_K.moved hW.alike hK, (hD.sub isC hCn hC).weaken (fun _ _ _ _ => trivial)⟩, hX.warm hS hF hU hW⟩⟩
theorem m_preSX (hX : mEx is text E A s) (hS : va_S A s.heap H locs) (hF : ∀ q, va_A wc H.size q → A q) (hK : va_K D vwCl (mTy I J) s) (hP : va_P D vwCl wsC H) (hD : va_D A wsC) (isC : List Nat) (hC : isC.map (fun i => wsC[i]?) = wc.map some) (hCn : va_nd isC = true) :
    PreS s H (mPx D I J is text E As wc H.size) As :=
  ⟨mPx_blind, fun U hU hW => ⟨rfl, ⟨by rw [hU], by rw [hU]; exact m_Psub hP isC hC, va_K.moved hW.alike hK, (hD.sub isC hCn hC).weaken (fun _ _ _ _ => trivial)⟩, hX.warm hS hF hU hW⟩⟩
theorem m_xVv (hX : mEx is text E A s) (hfix : CallFix p m c cc nL s args Ts own) (hA : ∀ q, s.heap.size ≤ q → A q) (hK : va_K D vwCl (mTy I J) s) (hP : va_P D vwCl wsC H) (hD : va_D A wsC) (hS : va_S A s.heap H locs) (hl : ls.size = nL)
    (hM : mXv l y wsy fr lo D I J is text E (.ref b :: As) wc H.size) (cw : CallW R s args own C index y bytes maxL ret wsy (mRm fr lo 1 6) 1 6 n)
    (isC isR isJ : List Nat) (k ci : Nat) {fs : List Value} {q : vw_C} (hc : vwCl[ci]? = some q) (he : wsC[k]? = some (b, .inr (ci, fs))) (hq : q.1 = C) (hC : isC.map (fun i => wsC[i]?) = wc.map some) (hR : isR.map (fun i => wsC[i]?) = wr.map some) (hCn : va_nd isC = true) (hRn : va_nd isR = true) (hJn : va_nd isJ = true) (hdis : ∀ i ∈ isR, i ∉ isC) (hJ : isJ.map (fun i => (wr ++ wc)[i]?) = wsC.map some)
    (hn : As.length = n) (hst : st0 = As.reverse ++ .ref b :: rest) (hroom : (rest.map fun v => v.category).sum ≤ 8) (hdg : decode cc pc = .ok (.invokevirtual index, 3)) (hf : cells + 1 ≤ R.cells ∧ slots + 6 ≤ R.slots)
    (kx : ∀ (ce : Cell) (q9 : Addr) (H1 : Heap) (locs1 : List Loc), va_P D vwCl wsC H1 → va_D A wsC → va_S A s.heap H1 locs1 → H1[q9]? = some ce → ce.vm = .none → s.vm.findClass E = some ce.cls → vx_W p l e R s m args below meth c H1 locs1 (cells + 1) (slots + 6) Q (F0 m pc ls rest) q9) : W p l e R s m args below meth c H locs cells slots Q (F0 m pc ls st0) := by
  have hFc := va_free (wc := wc) hD hS hA isC hC
  refine vx_callv (vx_runV (As := As) (rest := rest) hfix hM cw (m_preVX hX hS hFc hK hP hD isC hC hCn k ci hc he hq) rfl hn hl hst (lv_room hroom) hdg hf) hS (fun q _ h => hFc q h) hFc (fun q _ h => hFc q h) (fun E' ce q9 u t H1 locs1 ht hvm hpx hB hz1 hk1 hS1 hce hcv hcl => ?_) (fun u t H1 locs1 ht hvm hw => hw.elim)
  obtain ⟨rfl, hP1, hD1⟩ := hB
  rw [ht] at hP1
  obtain ⟨hP2, hD2⟩ := m_back hP hD isC isR isJ hC hR hRn hdis hJ hJn hk1 hFc hP1 hD1
  exact kx ce q9 H1 locs1 hP2 hD2 hS1 hce hcv hcl
theorem m_xVl (hX : mEx is text E A s) (hfix : CallFix p m c cc nL s args Ts own) (hA : ∀ q, s.heap.size ≤ q → A q) (hK : va_K D vwCl (mTy I J) s) (hP : va_P D vwCl wsC H) (hD : va_D A wsC) (hS : va_S A s.heap H locs) (hl : ls.size = nL)
    (hM : mXl l y wsy fr lo D I J is text E (.ref b :: As) wc H.size) (cw : CallW R s args own C index y bytes maxL ret wsy (mRm fr lo 1 6) 1 6 n)
    (isC isR isJ : List Nat) (k ci : Nat) {fs : List Value} {q : vw_C} (hc : vwCl[ci]? = some q) (he : wsC[k]? = some (b, .inr (ci, fs))) (hq : q.1 = C) (hC : isC.map (fun i => wsC[i]?) = wc.map some) (hR : isR.map (fun i => wsC[i]?) = wr.map some) (hCn : va_nd isC = true) (hRn : va_nd isR = true) (hJn : va_nd isJ = true) (hdis : ∀ i ∈ isR, i ∉ isC) (hJ : isJ.map (fun i => (wr ++ wc)[i]?) = wsC.map some)
    (hn : As.length = n) (hst : st0 = As.reverse ++ .ref b :: rest) (hroom : (rest.map fun v => v.category).sum ≤ 8) (hdg : decode cc pc = .ok (.invokevirtual index, 3)) (hf : cells + 1 ≤ R.cells ∧ slots + 6 ≤ R.slots)
    (kx : ∀ (ce : Cell) (q9 : Addr) (H1 : Heap) (locs1 : List Loc), va_P D vwCl wsC H1 → va_D A wsC → va_S A s.heap H1 locs1 → H1[q9]? = some ce → ce.vm = .none → s.vm.findClass E = some ce.cls → vx_W p l e R s m args below meth c H1 locs1 (cells + 1) (slots + 6) Q (F0 m pc ls rest) q9) : W p l e R s m args below meth c H locs cells slots Q (F0 m pc ls st0) := by
  have hFc := va_free (wc := wc) hD hS hA isC hC
  refine vx_calll (vx_runV (As := As) (rest := rest) hfix hM cw (m_preVX hX hS hFc hK hP hD isC hC hCn k ci hc he hq) rfl hn hl hst (lv_room hroom) hdg hf) hS (fun q _ h => hFc q h) hFc (fun q _ h => hFc q h) (fun E' ce q9 u t H1 locs1 ht hvm hpx hB hz1 hk1 hS1 hce hcv hcl => ?_) (fun r u t H1 locs1 ht hvm hw => hw.elim)
  obtain ⟨rfl, hP1, hD1⟩ := hB
  rw [ht] at hP1
  obtain ⟨hP2, hD2⟩ := m_back hP hD isC isR isJ hC hR hRn hdis hJ hJn hk1 hFc hP1 hD1
  exact kx ce q9 H1 locs1 hP2 hD2 hS1 hce hcv hcl
theorem m_xVi (hX : mEx is text E A s) (hfix : CallFix p m c cc nL s args Ts own) (hA : ∀ q, s.heap.size ≤ q → A q) (hK : va_K D vwCl (mTy I J) s) (hP : va_P D vwCl wsC H) (hD : va_D A wsC) (hS : va_S A s.heap H locs) (hl : ls.size = nL)
    (hM : mXi l y wsy fr lo D I J is text E (.ref b :: As) wc H.size) (cw : CallW R s args own C index y bytes maxL ret wsy (mRm fr lo 1 6) 1 6 n)
    (isC isR isJ : List Nat) (k ci : Nat) {fs : List Value} {q : vw_C} (hc : vwCl[ci]? = some q) (he : wsC[k]? = some (b, .inr (ci, fs))) (hq : q.1 = C) (hC : isC.map (fun i => wsC[i]?) = wc.map some) (hR : isR.map (fun i => wsC[i]?) = wr.map some) (hCn : va_nd isC = true) (hRn : va_nd isR = true) (hJn : va_nd isJ = true) (hdis : ∀ i ∈ isR, i ∉ isC) (hJ : isJ.map (fun i => (wr ++ wc)[i]?) = wsC.map some)
    (hn : As.length = n) (hst : st0 = As.reverse ++ .ref b :: rest) (hroom : (rest.map fun v => v.category).sum ≤ 8) (hdg : decode cc pc = .ok (.invokevirtual index, 3)) (hf : cells + 1 ≤ R.cells ∧ slots + 6 ≤ R.slots)
    (kx : ∀ (ce : Cell) (q9 : Addr) (H1 : Heap) (locs1 : List Loc), va_P D vwCl wsC H1 → va_D A wsC → va_S A s.heap H1 locs1 → H1[q9]? = some ce → ce.vm = .none → s.vm.findClass E = some ce.cls → vx_W p l e R s m args below meth c H1 locs1 (cells + 1) (slots + 6) Q (F0 m pc ls rest) q9) : W p l e R s m args below meth c H locs cells slots Q (F0 m pc ls st0) := by
  have hFc := va_free (wc := wc) hD hS hA isC hC
  refine vx_calli (vx_runV (As := As) (rest := rest) hfix hM cw (m_preVX hX hS hFc hK hP hD isC hC hCn k ci hc he hq) rfl hn hl hst (lv_room hroom) hdg hf) hS (fun q _ h => hFc q h) hFc (fun q _ h => hFc q h) (fun E' ce q9 u t H1 locs1 ht hvm hpx hB hz1 hk1 hS1 hce hcv hcl => ?_) (fun r u t H1 locs1 ht hvm hw => hw.elim)
  obtain ⟨rfl, hP1, hD1⟩ := hB
  rw [ht] at hP1
  obtain ⟨hP2, hD2⟩ := m_back hP hD isC isR isJ hC hR hRn hdis hJ hJn hk1 hFc hP1 hD1
  exact kx ce q9 H1 locs1 hP2 hD2 hS1 hce hcv hcl
theorem m_xSv (hX : mEx is text E A s) (hfix : CallFix p m c cc nL s args Ts own) (hA : ∀ q, s.heap.size ≤ q → A q) (hK : va_K D vwCl (mTy I J) s) (hP : va_P D vwCl wsC H) (hD : va_D A wsC) (hS : va_S A s.heap H locs) (hl : ls.size = nL)
    (hM : mXv l y wsy fr lo D I J is text E As wc H.size) (cw : CallB R s args own index y bytes maxL ret wsy (mRm fr lo 1 6) 1 6 n ∧ (Cond.static y).before args s = true)
    (isC isR isJ : List Nat) (hC : isC.map (fun i => wsC[i]?) = wc.map some) (hR : isR.map (fun i => wsC[i]?) = wr.map some) (hCn : va_nd isC = true) (hRn : va_nd isR = true) (hJn : va_nd isJ = true) (hdis : ∀ i ∈ isR, i ∉ isC) (hJ : isJ.map (fun i => (wr ++ wc)[i]?) = wsC.map some)
    (hn : As.length = n) (hst : st0 = As.reverse ++ rest) (hroom : (rest.map fun v => v.category).sum ≤ 8) (hdg : decode cc pc = .ok (.invokestatic index, 3)) (hf : cells + 1 ≤ R.cells ∧ slots + 6 ≤ R.slots)
    (kx : ∀ (ce : Cell) (q9 : Addr) (H1 : Heap) (locs1 : List Loc), va_P D vwCl wsC H1 → va_D A wsC → va_S A s.heap H1 locs1 → H1[q9]? = some ce → ce.vm = .none → s.vm.findClass E = some ce.cls → vx_W p l e R s m args below meth c H1 locs1 (cells + 1) (slots + 6) Q (F0 m pc ls rest) q9) : W p l e R s m args below meth c H locs cells slots Q (F0 m pc ls st0) := by
  have hFc := va_free (wc := wc) hD hS hA isC hC
  refine vx_callv (vx_runS (As := As) (rest := rest) hfix hM cw (m_preSX hX hS hFc hK hP hD isC hC hCn) rfl hn hl hst (lv_room hroom) hdg hf) hS (fun q _ h => hFc q h) hFc (fun q _ h => hFc q h) (fun E' ce q9 u t H1 locs1 ht hvm hpx hB hz1 hk1 hS1 hce hcv hcl => ?_) (fun u t H1 locs1 ht hvm hw => hw.elim)
  obtain ⟨rfl, hP1, hD1⟩ := hB
  rw [ht] at hP1
  obtain ⟨hP2, hD2⟩ := m_back hP hD isC isR isJ hC hR hRn hdis hJ hJn hk1 hFc hP1 hD1
  exact kx ce q9 H1 locs1 hP2 hD2 hS1 hce hcv hcl
end MXRun
