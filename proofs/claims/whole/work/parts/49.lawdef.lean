/-! the law's own state, what it keeps, and the one place that all its cases go on to -/
structure LSt where
  n : Nat
  f : Nat → Int32
  g : Nat → Int32
  nw : Nat
  fw : Nat → Int32
  gw : Nat → Int32
  nm : Nat
  fm : Nat → Int32
  ns : Nat
  fs : Nat → Int32
  gs : Nat → Int32
  ug : Nat → Int32
  rm : Nat
  us : Nat
  aw : Int32
  np : Nat
  fp : Nat → Int32
  gp : Nat → Int32
  nv : Nat
  fv : Nat → Int32
  gv : Nat → Int32
  nq : Nat
  fq : Nat → Int32
  nl : Nat
  fl : Nat → Int32
  gl : Nat → Int32
  ul : Nat → Int32
  rm2 : Nat
  us2 : Nat
  aw2 : Int32
  ic : Int32
  fo : Nat → Int64
structure LAd where
  x : Nat
  tp : Nat
  tk : Nat
  tka : Nat
  tv : Nat
  tva : Nat
  cp : Nat
  ck : Nat
  cka : Nat
  cv : Nat
  cva : Nat
  mr : Nat
  mra : Nat
  sp : Nat
  sk : Nat
  ska : Nat
  sv : Nat
  sva : Nat
  ur : Nat
  ura : Nat
  y : Nat
  ak : Nat
  av : Nat
  awk : Nat
  ao : Nat
  am : Nat
  lk : Nat
  lv : Nat
  lu : Nat
  oa : Nat
def lWd (J I : ClassId) (α : LAd) (σ : LSt) : va_W := [(α.x, .inr (2, [.ref α.tp, .ref α.cp, .ref α.mr, .ref α.sp, .ref α.ur, .int (nI σ.rm), .int (nI σ.us), .int σ.aw])), (α.tp, .inr (0, [.ref α.tk, .ref α.tv])), (α.tk, .inr (1, [.ref α.tka, .int (nI σ.n)])), (α.tka, .inl (I, 200, .inl σ.f)), (α.tv, .inr (1, [.ref α.tva, .int (nI σ.n)])), (α.tva, .inl (I, 200, .inl σ.g)), (α.cp, .inr (0, [.ref α.ck, .ref α.cv])), (α.ck, .inr (1, [.ref α.cka, .int (nI σ.nw)])), (α.cka, .inl (I, 200, .inl σ.fw)), (α.cv, .inr (1, [.ref α.cva, .int (nI σ.nw)])), (α.cva, .inl (I, 200, .inl σ.gw)), (α.mr, .inr (1, [.ref α.mra, .int (nI σ.nm)])), (α.mra, .inl (I, 200, .inl σ.fm)), (α.sp, .inr (0, [.ref α.sk, .ref α.sv])), (α.sk, .inr (1, [.ref α.ska, .int (nI σ.ns)])), (α.ska, .inl (I, 61, .inl σ.fs)), (α.sv, .inr (1, [.ref α.sva, .int (nI σ.ns)])), (α.sva, .inl (I, 61, .inl σ.gs)), (α.ur, .inr (1, [.ref α.ura, .int (nI σ.ns)])), (α.ura, .inl (I, 61, .inl σ.ug)), (α.y, .inr (3, [.ref α.ak, .ref α.av, .ref α.awk, .ref α.ao, .ref α.am, .ref α.lk, .ref α.lv, .ref α.lu, .int (nI σ.np), .int (nI σ.nv), .int (nI σ.nq), .int (nI σ.nl), .int (nI σ.rm2), .int (nI σ.us2), .int σ.aw2, .int σ.ic])), (α.ak, .inl (I, 200, .inl σ.fp)), (α.av, .inl (I, 200, .inl σ.gp)), (α.awk, .inl (I, 200, .inl σ.fv)), (α.ao, .inl (I, 200, .inl σ.gv)), (α.am, .inl (I, 200, .inl σ.fq)), (α.lk, .inl (I, 61, .inl σ.fl)), (α.lv, .inl (I, 61, .inl σ.gl)), (α.lu, .inl (I, 61, .inl σ.ul)), (α.oa, .inl (J, 1, .inr (.inl σ.fo)))]
def LI (u : Nat) (σ : LSt) : Prop :=
  (R2 (σ.f, σ.g, σ.n) (σ.fp, σ.gp, σ.np) ∧ σ.n ≤ 200) ∧ (R2 (σ.fw, σ.gw, σ.nw) (σ.fv, σ.gv, σ.nv) ∧ σ.nw ≤ 200) ∧ (RM σ.fm σ.nm σ.fq σ.nq ∧ σ.nm ≤ 200) ∧ (R3 (σ.fs, σ.gs, σ.ug, σ.ns) (σ.fl, σ.gl, σ.ul, σ.nl) σ.us ∧ σ.ns ≤ σ.rm ∧ 1 ≤ σ.rm ∧ σ.rm ≤ 60 ∧ σ.us ≤ u) ∧ (σ.rm2 = σ.rm ∧ σ.us2 = σ.us ∧ σ.aw2 = σ.aw)
abbrev xNSE : String := "java/util/NoSuchElementException"
abbrev xIOB : String := "java/lang/IndexOutOfBoundsException"
def lwC (p : Program) (l : Launch) (s : State) (m : MethodId) (b : Nat) (c : Code) (D : va_G) (I J : ClassId) (A : Nat → Prop) (L : Nat) (xs : Nat → Int32) : Prop :=
  p.tables.exec = Jvm.exec ∧ c.code = cL_law ∧ c.maxLocals = 8 ∧ s.vm.findClass RL = some m.cls ∧ (∀ w ∈ wsL_law, w.before #[Value.ref b] s = true) ∧ va_K D vwCl (mTy I J) s ∧ (∀ q : Nat, s.heap.size ≤ q → A q) ∧ (¬ A b) ∧ va_X b L xs s s.heap ∧ b < s.heap.size ∧ L ≤ 2048 ∧ l.stackTraces = false ∧
  mEx 121 "the table would hold more than 200 pairs" xISE A s ∧ mEx 160 "more than 200 numbers would be marked" xISE A s ∧ mEx 90 "a fill is of 0 to 64 keys" xIAE A s ∧ mEx 130 "200 words are counted" xISE A s ∧ mEx 141 "a word's number is 0 to 18277" xIAE A s ∧ mEx 134 "no word is counted" xNSE A s ∧ mEx 162 "a room is 1 to 60" xIAE A s ∧ mEx 182 "there is no such place on the shelf" xIOB A s
def lwK (p : Program) (l : Launch) (e : Env) (s : State) (m : MethodId) (b : Nat) (below : List Frame) (meth : Method) (c : Code) (D : va_G) (I J : ClassId) (A : Nat → Prop) (α : LAd) (i mc ms : Nat) (Q : State → Prop) : Prop :=
  ∀ (σ : LSt), LI (i + 1) σ → ∀ (H : Heap) (locs : List Loc) (ls : Array Slot), va_P D vwCl (lWd J I α σ) H → va_D A (lWd J I α σ) → va_S A s.heap H locs → lv_has ls 8 [(0, .ref b), (1, .ref α.x), (2, .ref α.y), (3, .ref α.oa), (4, .int (nI i))] → W p l e room_1 s m #[Value.ref b] below meth c H locs mc ms Q (F0 m 1917 ls [])
section LSLD
variable {p : Program} {l : Launch} {e : Env} {R : Room} {s : State} {m : MethodId} {args : Array Value} {below : List Frame} {meth : Method} {c : Code} {H H0 : Heap} {locs : List Loc} {cells slots : Nat} {Q : State → Prop}
variable {cc : ByteArray} {pc : Nat} {ls : Array Slot} {rest : List Value} {A : Nat → Prop}
theorem lw_sld (hexec : p.tables.exec = Jvm.exec) (hb : c.code = cc) {b L j : Nat} {xs : Nat → Int32} (hX : va_X b L xs s H0) (hbl : b < H0.size) (hbA : ¬ A b) (hS : va_S A H0 H locs) (hj : j < L) (hL : L ≤ 2048) (hdg : decode cc pc = .ok (.iaload, 1))
    (kk : W p l e R s m args below meth c H locs cells slots Q (F0 m (pc + 1) ls (.int (xs j) :: rest))) : W p l e R s m args below meth c H locs cells slots Q (F0 m pc ls (.int (nI j) :: .ref b :: rest)) :=
  va_sld hexec hb hX hbl hbA hS (vp_in_nI hj (by omega)) hdg (by rw [nI_clamp (by omega)]; exact kk)
end LSLD
