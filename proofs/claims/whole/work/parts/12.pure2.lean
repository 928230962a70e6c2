/-! more of what the loops make: new keys, the shelf -/
def qNew (f : Nat → Int32) (n : Nat) (kf : Nat → Int32) : Nat → Bool := fun i => !(rF f (kf i) n).isSome
theorem cntP_t {q : Nat → Bool} {i : Nat} (h : q i = true) : cntP q (i + 1) = cntP q i + 1 := if_pos h
theorem cntP_f {q : Nat → Bool} {i : Nat} (h : q i = false) : cntP q (i + 1) = cntP q i := if_neg (by rw [h]; exact Bool.false_ne_true)
theorem qNew_t {f : Nat → Int32} {n : Nat} {kf : Nat → Int32} {i : Nat} (h : bI (rF f (kf i) n).isSome = 0) : qNew f n kf i = true := by
  unfold qNew
  rw [bI0.mp h]
  rfl
theorem qNew_f {f : Nat → Int32} {n : Nat} {kf : Nat → Int32} {i : Nat} (h : ¬ bI (rF f (kf i) n).isSome = 0) : qNew f n kf i = false := by
  unfold qNew
  rw [bI1 h]
  rfl
def fillK (first step : Int32) : Nat → Int32 := fun i => first + nI i * step
def nkF (f : Nat → Int32) (n : Nat) (first step : Int32) (many : Nat) : Nat := cntP (qNew f n (fillK first step)) (dK step many)
theorem nkF_le (f : Nat → Int32) (n : Nat) (first step : Int32) (many : Nat) : nkF f n first step many ≤ many := Nat.le_trans (cntP_le _ _) (dK_le _ _)
theorem ins2_lt {s : T2} {k v : Int32} {M : Nat} (h : (ins2 s k v).2.2 ≤ M) (ho : rF s.1 k s.2.2 = none) : s.2.2 < M := by
  unfold ins2 at h
  rw [ho] at h
  exact h
theorem ins1_lt {s : T1} {k : Int32} {M : Nat} (h : (ins1 s k).2 ≤ M) (ho : (rF s.1 k s.2).isSome = false) : s.2 < M := by
  unfold ins1 at h
  rw [if_neg (by rw [ho]; exact Bool.false_ne_true)] at h
  exact h
def lay3 (f g u : Nat → Int32) (n : Nat) (o : Option Nat) (k v us : Int32) (room : Nat) : T3 :=
  dr3 (delN n o + 1 - room) (upd (delF f n o) (delN n o) k, upd (delF g n o) (delN n o) v, upd (delF u n o) (delN n o) us, delN n o + 1)
def use3 (f g u : Nat → Int32) (n : Nat) (o : Option Nat) (k us : Int32) (room : Nat) : T3 := match o with
  | none => (f, g, u, n)
  | some j => lay3 f g u n (some j) k (g j) us room
def useU (us : Nat) : Option Nat → Nat
  | none => us
  | some _ => us + 1
def useW (n room : Nat) (aw : Int32) : Option Nat → Int32
  | none => aw
  | some j => aw + nI (delN n (some j) + 1 - room)
theorem delN_le (n : Nat) (o : Option Nat) : delN n o ≤ n := by cases o <;> simp [delN]
theorem max_sub {a b : Nat} (ha : a < 2 ^ 30) (hb : b < 2 ^ 30) : (if nI a - nI b < 0 then 0 else nI a - nI b) = nI (a - b) := by
  rcases Nat.lt_or_ge a b with h | h
  · rw [if_pos (pk_sneg hb h), show a - b = 0 by omega]
    rfl
  · rw [pk_sub h, if_neg (nI_pos (by omega))]
