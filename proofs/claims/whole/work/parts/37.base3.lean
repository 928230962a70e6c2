/-! methods with a table of their own: the law's helpers, that catch -/
def mYi {S : Type} (l : Launch) (y : MethodName) (ws : List Cond) (fr lo : Nat) (D : va_G) (I J : ClassId) (is : Nat) (text E : String) (av : List Value) (wc : va_W) (sz : Nat) (post : Int32 → S → Prop) (w : S → va_W) : Prop :=
  Met l y ws (mRm fr lo 1 6) (mPx D I J is text E av wc sz) (va_Qi post (mB D w (va_A wc sz)) (va_A wc sz)) 1 6 (va_A wc sz)
section MHBody
variable {S : Type} {l : Launch} {y : MethodName} {ws ws' : List Cond} {fr lo mc ms : Nat} {D : va_G} {I J : ClassId} {is : Nat} {text E : String} {av : List Value} {wc : va_W} {sz : Nat} {w : S → va_W}
theorem m_ofiH {cc : ByteArray} {maxL : Nat} {ret : Option FieldType} {hh : List (Nat × Nat × Nat × Nat)} {post : Int32 → S → Prop} (hy : plainName y.cls = true) (hw : ws = Cond.codeWith y cc maxL ret hh :: ws') (hn : (lg_sl av).length ≤ maxL)
    (body : mBody l y ws cc maxL ret fr lo mc ms D I J av wc (fun A => va_Qi post (mB D w A) A)) : mCi l y ws fr lo mc ms D I J av wc sz post w := by
  unfold mCi
  refine va_MetW (cc := cc) (maxL := maxL) (ret := ret) (hh := hh) hy hw ?_
  intro p e s m args below meth c s₁ B hml hv
  obtain ⟨rfl, hsz, hP, hK, hD0⟩ := hv
  subst hsz
  have hD := hD0.self (sz := s.heap.size)
  rw [lg_entry_eq]
  exact body p e s m _ below meth c (va_A wc s.heap.size) _ B.exec B.bytes B.returns B.notSynchronized hml (atoms_spec (ws := ws) B.pre) (findClass_of_methodNamed B.named) (name_of_methodNamed B.named B.method).1 hK hP hD (fun q h => Or.inr h) va_S.rf (lv_entry av hn)
def mYBody (l : Launch) (y : MethodName) (ws : List Cond) (cc : ByteArray) (maxL : Nat) (ret : Option FieldType) (hh : List (Nat × Nat × Nat × Nat)) (fr lo : Nat) (D : va_G) (I J : ClassId) (is : Nat) (text E : String) (av : List Value) (wc : va_W) (Qc : (Nat → Prop) → Array Value → State → Outcome → State → Prop) : Prop :=
  ∀ (p : Program) (e : Env) (s : State) (m : MethodId) (args : Array Value) (below : List Frame) (meth : Method) (c : Code) (A : Nat → Prop) (ls : Array Slot), p.tables.exec = Jvm.exec → c.code = cc → meth.sig.returnType = ret → meth.locks = false → c.maxLocals = maxL → (∀ w ∈ ws, w.before args s = true) → s.vm.findClass y.cls = some m.cls → meth.name = y.name →
    va_K D vwCl (mTy I J) s → va_P D vwCl wc s.heap → va_D A wc → (∀ q : Nat, s.heap.size ≤ q → A q) → va_S A s.heap s.heap [] → lv_has ls maxL (lv_args 0 av) → c.exceptionTable.toList = tableOf hh → mEx is text E A s →
    W p l e (mRm fr lo 1 6) s m args below meth c s.heap [] 0 0 (MQ below (Qc A) args s 1 6 A) (F0 m 0 ls [])
theorem m_ofYi {cc : ByteArray} {maxL : Nat} {ret : Option FieldType} {hh : List (Nat × Nat × Nat × Nat)} {post : Int32 → S → Prop} (hy : plainName y.cls = true) (hw : ws = Cond.codeWith y cc maxL ret hh :: ws') (hn : (lg_sl av).length ≤ maxL)
    (body : mYBody l y ws cc maxL ret hh fr lo D I J is text E av wc (fun A => va_Qi post (mB D w A) A)) : mYi l y ws fr lo D I J is text E av wc sz post w := by
  unfold mYi
  refine va_MetW (cc := cc) (maxL := maxL) (ret := ret) (hh := hh) hy hw ?_
  intro p e s m args below meth c s₁ B hml hv
  obtain ⟨rfl, ⟨hsz, hP, hK, hD0⟩, hX⟩ := hv
  subst hsz
  have hD := hD0.self (sz := s.heap.size)
  have hts := atoms_spec (ws := ws) B.pre
  have htab : c.exceptionTable.toList = tableOf hh := vx_table (x := y) B (hts _ (by rw [hw]; exact List.mem_cons_self))
  rw [lg_entry_eq]
  exact body p e s m _ below meth c (va_A wc s.heap.size) _ B.exec B.bytes B.returns B.notSynchronized hml hts (findClass_of_methodNamed B.named) (name_of_methodNamed B.named B.method).1 hK hP hD (fun q h => Or.inr h) va_S.rf (lv_entry av hn) htab hX
end MHBody
section MHRun
variable {p : Program} {l : Launch} {e : Env} {R : Room} {s : State} {m : MethodId} {args : Array Value} {below : List Frame} {meth : Method} {c : Code} {H : Heap} {locs : List Loc} {cells slots : Nat} {Q : State → Prop}
variable {cc : ByteArray} {pc : Nat} {ls : Array Slot} {rest st0 : List Value} {D : va_G} {A : Nat → Prop} {S : Type} {w : S → va_W} {mc ms : Nat}
variable {nL index maxL n fr lo : Nat} {own : String} {Ts wsy : List Cond} {y : MethodName} {bytes : ByteArray} {ret : Option FieldType} {hh : List (Nat × Nat × Nat × Nat)} {I J : ClassId} {is : Nat} {text E : String} {As : List Value} {wsC wc wr : va_W}
/-- what was thrown is caught: by the first row, or by the second past the first -/
theorem m_catch1 {q : Addr} {ce : Cell} {x : ExceptionTableEntry} {suf : List ExceptionTableEntry} (hX : mEx is text E A s) (hown : s.vm.findClass own = some m.cls) (htab : c.exceptionTable.toList = x :: suf) (hx : covers x pc = true) (h0 : x.catchType ≠ 0)
    (hlink : (Cond.classLink own x.catchType E).before args s = true) (hce : H[q]? = some ce) (hcv : ce.vm = .none) (hcl : s.vm.findClass E = some ce.cls)
    (kk : W p l e R s m args below meth c H locs cells slots Q (F0 m x.handlerPc ls [.ref q])) : vx_W p l e R s m args below meth c H locs cells slots Q (F0 m pc ls rest) q :=
  vx_catch hown [] x suf htab (fun z hz => nomatch hz) hx h0 hlink (va_Nw.use rfl hX.1.1) hce hcv hcl kk
theorem m_catch2 {q : Addr} {ce : Cell} {x0 x : ExceptionTableEntry} {suf : List ExceptionTableEntry} (hX : mEx is text xISE A s) (hown : s.vm.findClass own = some m.cls) (htab : c.exceptionTable.toList = x0 :: x :: suf) (h00 : x0.catchType ≠ 0) (hlink0 : (Cond.classLink own x0.catchType xIAE).before args s = true) (hx : covers x pc = true) (h0 : x.catchType ≠ 0)
    (hlink : (Cond.classLink own x.catchType xISE).before args s = true) (hce : H[q]? = some ce) (hcv : ce.vm = .none) (hcl : s.vm.findClass xISE = some ce.cls)
    (kk : W p l e R s m args below meth c H locs cells slots Q (F0 m x.handlerPc ls [.ref q])) : vx_W p l e R s m args below meth c H locs cells slots Q (F0 m pc ls rest) q :=
  vx_catch hown [x0] x suf htab (fun z hz => by
    rcases List.mem_singleton.mp hz with rfl
    exact Or.inr ⟨h00, xIAE, hlink0, hX.2.2.1⟩) hx h0 hlink (va_Nw.use rfl hX.1.1) hce hcv hcl kk
theorem m_Hi {post : Int32 → S → Prop} {ws2 : S → va_W} (hfix : CallFix p m c cc nL s args Ts own) (hA : ∀ q, s.heap.size ≤ q → A q) (hK : va_K D vwCl (mTy I J) s) (hP : va_P D vwCl wsC H) (hD : va_D A wsC) (hS : va_S A s.heap H locs) (hl : ls.size = nL)
    (hM : mCi l y wsy fr lo mc ms D I J As wc H.size post w) (cw : vx_CSW R s args own index y bytes maxL ret hh wsy (mRm fr lo mc ms) mc ms n)
    (isC isR isJ : List Nat) (hC : isC.map (fun i => wsC[i]?) = wc.map some) (hR : isR.map (fun i => wsC[i]?) = wr.map some) (hCn : va_nd isC = true) (hRn : va_nd isR = true) (hJn : va_nd isJ = true) (hdis : ∀ i ∈ isR, i ∉ isC) (hJ : ∀ u, isJ.map (fun i => (wr ++ w u)[i]?) = (ws2 u).map some)
    (hn : As.length = n) (hst : st0 = As.reverse ++ rest) (hroom : (rest.map fun v => v.category).sum ≤ 8) (hdg : decode cc pc = .ok (.invokestatic index, 3)) (hf : cells + mc ≤ R.cells ∧ slots + ms ≤ R.slots)
    (kk : ∀ (r : Int32) (u : S) (H1 : Heap) (locs1 : List Loc), post r u → va_P D vwCl (ws2 u) H1 → va_D A (ws2 u) → va_S A s.heap H1 locs1 → W p l e R s m args below meth c H1 locs1 (cells + mc) (slots + ms) Q (F0 m (pc + 3) ls (.int r :: rest))) : W p l e R s m args below meth c H locs cells slots Q (F0 m pc ls st0) := by
  have hFc := va_free (wc := wc) hD hS hA isC hC
  refine va_calli (vx_runSW (As := As) (rest := rest) hfix hM cw (m_preS hK hP hD isC hC hCn) rfl hn hl hst (lv_room hroom) hdg hf) hS (fun q _ h => hFc q h) hFc (fun r u t H1 locs1 ht hvm hw hB hz1 hk1 hS1 => ?_)
  obtain ⟨hP1, hD1⟩ := hB
  rw [ht] at hP1
  obtain ⟨hP2, hD2⟩ := m_back hP hD isC isR isJ hC hR hRn hdis (hJ u) hJn hk1 hFc hP1 hD1
  exact kk r u H1 locs1 hw hP2 hD2 hS1
theorem m_Yi {post : Int32 → S → Prop} {ws2 : S → va_W} (hX : mEx is text E A s) (hfix : CallFix p m c cc nL s args Ts own) (hA : ∀ q, s.heap.size ≤ q → A q) (hK : va_K D vwCl (mTy I J) s) (hP : va_P D vwCl wsC H) (hD : va_D A wsC) (hS : va_S A s.heap H locs) (hl : ls.size = nL)
    (hM : mYi l y wsy fr lo D I J is text E As wc H.size post w) (cw : vx_CSW R s args own index y bytes maxL ret hh wsy (mRm fr lo 1 6) 1 6 n)
    (isC isR isJ : List Nat) (hC : isC.map (fun i => wsC[i]?) = wc.map some) (hR : isR.map (fun i => wsC[i]?) = wr.map some) (hCn : va_nd isC = true) (hRn : va_nd isR = true) (hJn : va_nd isJ = true) (hdis : ∀ i ∈ isR, i ∉ isC) (hJ : ∀ u, isJ.map (fun i => (wr ++ w u)[i]?) = (ws2 u).map some)
    (hn : As.length = n) (hst : st0 = As.reverse ++ rest) (hroom : (rest.map fun v => v.category).sum ≤ 8) (hdg : decode cc pc = .ok (.invokestatic index, 3)) (hf : cells + 1 ≤ R.cells ∧ slots + 6 ≤ R.slots)
    (kk : ∀ (r : Int32) (u : S) (H1 : Heap) (locs1 : List Loc), post r u → va_P D vwCl (ws2 u) H1 → va_D A (ws2 u) → va_S A s.heap H1 locs1 → W p l e R s m args below meth c H1 locs1 (cells + 1) (slots + 6) Q (F0 m (pc + 3) ls (.int r :: rest))) : W p l e R s m args below meth c H locs cells slots Q (F0 m pc ls st0) := by
  have hFc := va_free (wc := wc) hD hS hA isC hC
  refine va_calli (vx_runSW (As := As) (rest := rest) hfix hM cw (m_preSX hX hS hFc hK hP hD isC hC hCn) rfl hn hl hst (lv_room hroom) hdg hf) hS (fun q _ h => hFc q h) hFc (fun r u t H1 locs1 ht hvm hw hB hz1 hk1 hS1 => ?_)
  obtain ⟨hP1, hD1⟩ := hB
  rw [ht] at hP1
  obtain ⟨hP2, hD2⟩ := m_back hP hD isC isR isJ hC hR hRn hdis (hJ u) hJn hk1 hFc hP1 hD1
  exact kk r u H1 locs1 hw hP2 hD2 hS1
end MHRun
