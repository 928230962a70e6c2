/-! what the reference's methods make, as functions of its rows -/
def rL (f : Nat → Int32) (v : Int32) : Nat → Option Nat
  | 0 => none
  | n + 1 => if f n = v then some n else rL f v n
theorem rL_some {f : Nat → Int32} {v : Int32} : ∀ {n j : Nat}, rL f v n = some j → j < n ∧ f j = v
  | 0, j, h => by simp [rL] at h
  | n + 1, j, h => by
    unfold rL at h
    by_cases e : f n = v
    · simp only [e, if_true] at h
      cases h
      exact ⟨by omega, e⟩
    · simp only [e, if_false] at h
      have := rL_some h
      exact ⟨by omega, this.2⟩
theorem rL_none {f : Nat → Int32} {v : Int32} : ∀ {n : Nat}, rL f v n = none → ∀ i, i < n → f i ≠ v
  | 0, _, i, hi => absurd hi (Nat.not_lt_zero _)
  | n + 1, h, i, hi => by
    unfold rL at h
    by_cases e : f n = v
    · simp only [e, if_true] at h
      cases h
    · simp only [e, if_false] at h
      rcases Nat.lt_or_ge i n with h1 | h1
      · exact rL_none h i h1
      · have : i = n := by omega
        subst this
        exact e
theorem rL_lt {f : Nat → Int32} {v : Int32} {n : Nat} (hn : n ≤ 1000) : ∀ j, rL f v n = some j → j < 2 ^ 31 := fun j h => by
  have := (rL_some h).1
  omega
theorem rL_ho {f : Nat → Int32} {v : Int32} {n : Nat} : ∀ j, rL f v n = some j → j < n := fun j h => (rL_some h).1
theorem rL_t {f : Nat → Int32} {v : Int32} {i : Nat} (e : f i = v) : rL f v (i + 1) = some i := if_pos e
theorem rL_f {f : Nat → Int32} {v : Int32} {i : Nat} (e : ¬ f i = v) : rL f v (i + 1) = rL f v i := if_neg e
theorem iO_ge {o : Option Nat} (h : ¬ iO o ≥ 0) (ho : ∀ j, o = some j → j < 2 ^ 31) : o = none := by
  cases o with
  | none => rfl
  | some j => exact absurd (nI_pos' (ho j rfl)) h
theorem iO_ges {o : Option Nat} (h : iO o ≥ 0) : ∃ j, o = some j := by
  cases o with
  | none => exact absurd h (by decide)
  | some j => exact ⟨j, rfl⟩
theorem iO_lts {o : Option Nat} (h : ¬ iO o < 0) : ∃ j, o = some j := by
  cases o with
  | none => exact absurd (by decide) h
  | some j => exact ⟨j, rfl⟩
def swF (f : Nat → Int32) (n j : Nat) : Nat → Int32 := upd f j (f (n - 1))
def fullB (o : Option Nat) (n : Nat) : Bool := !o.isSome && decide (n = 200)
def sw2 (s : T2) (i : Nat) : T2 := (swF s.1 s.2.2 i, swF s.2.1 s.2.2 i, s.2.2 - 1)
def sw1 (s : T1) (i : Nat) : T1 := (swF s.1 s.2 i, s.2 - 1)
def dropM (p : Int32 → Int32 → Bool) : Nat → T2 → T2
  | 0, s => s
  | i + 1, s => dropM p i (if p (s.1 i) (s.2.1 i) then sw2 s i else s)
def dropN (p : Int32 → Bool) : Nat → T1 → T1
  | 0, s => s
  | i + 1, s => dropN p i (if p (s.1 i) then sw1 s i else s)
def ins2L (s : T2) (k v : Int32) : T2 := (insF s.1 s.2.2 k (rL s.1 k s.2.2), insG s.2.1 s.2.2 v (rL s.1 k s.2.2), insN s.2.2 (rL s.1 k s.2.2))
def insWL (kf vf : Nat → Int32) : Nat → T2 → T2
  | 0, s => s
  | i + 1, s => ins2L (insWL kf vf i s) (kf i) (vf i)
def ins1L (s : T1) (k : Int32) : T1 := (insF s.1 s.2 k (rL s.1 k s.2), insN s.2 (rL s.1 k s.2))
def mkWL (kf : Nat → Int32) : Nat → T1 → T1
  | 0, s => s
  | i + 1, s => ins1L (mkWL kf i s) (kf i)
theorem insWL_mono (kf vf : Nat → Int32) (s : T2) : ∀ {i n : Nat}, i ≤ n → (insWL kf vf i s).2.2 ≤ (insWL kf vf n s).2.2
  | i, 0, h => by
    have : i = 0 := by omega
    subst this
    exact Nat.le_refl _
  | i, n + 1, h => by
    rcases Nat.lt_or_ge n i with h1 | h1
    · have : i = n + 1 := by omega
      subst this
      exact Nat.le_refl _
    · exact Nat.le_trans (insWL_mono kf vf s h1) (insN_ge _ _).1
theorem mkWL_mono (kf : Nat → Int32) (s : T1) : ∀ {i n : Nat}, i ≤ n → (mkWL kf i s).2 ≤ (mkWL kf n s).2
  | i, 0, h => by
    have : i = 0 := by omega
    subst this
    exact Nat.le_refl _
  | i, n + 1, h => by
    rcases Nat.lt_or_ge n i with h1 | h1
    · have : i = n + 1 := by omega
      subst this
      exact Nat.le_refl _
    · exact Nat.le_trans (mkWL_mono kf s h1) (insN_ge _ _).1
theorem ins2L_lt {s : T2} {k v : Int32} {M : Nat} (h : (ins2L s k v).2.2 ≤ M) (ho : rL s.1 k s.2.2 = none) : s.2.2 < M := by
  unfold ins2L at h
  rw [ho] at h
  exact h
theorem ins1L_lt {s : T1} {k : Int32} {M : Nat} (h : (ins1L s k).2 ≤ M) (ho : rL s.1 k s.2 = none) : s.2 < M := by
  unfold ins1L at h
  rw [ho] at h
  exact h
def qL (f : Nat → Int32) (n : Nat) (kf : Nat → Int32) : Nat → Bool := fun i => !(rL f (kf i) n).isSome
theorem qL_t {f : Nat → Int32} {n : Nat} {kf : Nat → Int32} {i : Nat} (h : rL f (kf i) n = none) : qL f n kf i = true := by
  unfold qL
  rw [h]
  rfl
theorem qL_f {f : Nat → Int32} {n : Nat} {kf : Nat → Int32} {i j : Nat} (h : rL f (kf i) n = some j) : qL f n kf i = false := by
  unfold qL
  rw [h]
  rfl
/-- a key that comes for the first time, and isn't there -/
def isN (f : Nat → Int32) (n : Nat) (kf : Nat → Int32) (k : Nat) : Nat → Bool
  | 0 => !(rL f (kf k) n).isSome
  | i + 1 => isN f n kf k i && decide (¬ kf i = kf k)
def lackN (f : Nat → Int32) (n : Nat) (kf : Nat → Int32) (many : Nat) : Nat := cntP (fun k => isN f n kf k k) many
theorem bI_and (a b : Bool) : bI a &&& bI b = bI (a && b) := by cases a <;> cases b <;> decide
/-- how many were used before the k-th -/
def rk (u : Nat → Int32) (n : Nat) (k : Nat) : Int32 := nI (cntP (fun i => decide (u i < u k)) n)
def pl (u : Nat → Int32) (n : Nat) (p : Int32) : Nat := (rL (rk u n) p n).getD 0
def sw3 (s : T3) (j : Nat) : T3 := (swF s.1 s.2.2.2 j, swF s.2.1 s.2.2.2 j, swF s.2.2.1 s.2.2.2 j, s.2.2.2 - 1)
def crd : Nat → T3 → T3
  | 0, s => s
  | i + 1, s => sw3 (crd i s) (pl (crd i s).2.2.1 (crd i s).2.2.2 0)
theorem crd_n (s : T3) : ∀ i, (crd i s).2.2.2 = s.2.2.2 - i
  | 0 => rfl
  | i + 1 => by
    have := crd_n s i
    show (crd i s).2.2.2 - 1 = _
    omega
theorem cntP_0 {q : Nat → Bool} : ∀ {n : Nat}, (∀ i, i < n → q i = false) → cntP q n = 0
  | 0, _ => rfl
  | n + 1, h => by
    rw [cntP_f (h n (Nat.lt_succ_self n))]
    exact cntP_0 (fun i hi => h i (Nat.lt_succ_of_lt hi))
/-- of several there is one that none is below -/
theorem ex_min (u : Nat → Int32) : ∀ n, 0 < n → ∃ k, k < n ∧ ∀ i, i < n → ¬ u i < u k
  | 0, h => absurd h (Nat.lt_irrefl _)
  | n + 1, _ => by
    rcases Nat.eq_zero_or_pos n with h | h
    · subst h
      exact ⟨0, by omega, fun i hi => by
        have : i = 0 := by omega
        subst this
        exact Int32.lt_irrefl⟩
    · obtain ⟨k, hk, hm⟩ := ex_min u n h
      by_cases hc : u n < u k
      · refine ⟨n, by omega, fun i hi => ?_⟩
        rcases Nat.lt_or_ge i n with h1 | h1
        · exact fun q => hm i h1 (Int32.lt_trans q hc)
        · have : i = n := by omega
          subst this
          exact Int32.lt_irrefl
      · refine ⟨k, by omega, fun i hi => ?_⟩
        rcases Nat.lt_or_ge i n with h1 | h1
        · exact hm i h1
        · have : i = n := by omega
          subst this
          exact hc
theorem rL_ex {f : Nat → Int32} {v : Int32} : ∀ {n k : Nat}, k < n → f k = v → ∃ j, rL f v n = some j
  | 0, k, hk, _ => absurd hk (Nat.not_lt_zero _)
  | n + 1, k, hk, e => by
    by_cases h : f n = v
    · exact ⟨n, rL_t h⟩
    · rw [rL_f h]
      rcases Nat.lt_or_ge k n with h1 | h1
      · exact rL_ex h1 e
      · have : k = n := by omega
        subst this
        exact absurd e h
theorem first_ex (u : Nat → Int32) {n : Nat} (hn : 0 < n) : ∃ j, rL (rk u n) 0 n = some j := by
  obtain ⟨k, hk, hm⟩ := ex_min u n hn
  refine rL_ex hk ?_
  unfold rk
  rw [cntP_0 (fun i hi => decide_eq_false (hm i hi))]
  rfl
def laysS (f g u : Nat → Int32) (n : Nat) (o : Option Nat) (k v us : Int32) : T3 := (insF f n k o, insG g n v o, insG u n us o, insN n o)
def lays3 (f g u : Nat → Int32) (n : Nat) (o : Option Nat) (k v us : Int32) (room : Nat) : T3 := crd (insN n o - room) (laysS f g u n o k v us)
/-- merge, by the reference -/
def mgN (n : Nat) (g : Nat → Int32) (v : Int32) : Option Nat → Nat
  | none => n + 1
  | some j => if decide (g j + v = 0) then n - 1 else n
def mgF (f : Nat → Int32) (n : Nat) (k : Int32) (g : Nat → Int32) (v : Int32) : Option Nat → Nat → Int32
  | none => upd f n k
  | some j => if decide (g j + v = 0) then swF f n j else f
def mgG (g : Nat → Int32) (n : Nat) (v : Int32) : Option Nat → Nat → Int32
  | none => upd g n v
  | some j => if decide (g j + v = 0) then swF (upd g j (g j + v)) n j else upd g j (g j + v)
def swO (f : Nat → Int32) (n : Nat) : Option Nat → Nat → Int32
  | none => f
  | some j => swF f n j
theorem i64_ne (x : Int32) : ¬ x.toInt64 = 4294967296 := by
  intro h
  have h1 := congrArg Int64.toInt h
  rw [Int32.toInt_toInt64] at h1
  have h2 := x.toInt_lt
  rw [h1] at h2
  exact absurd h2 (by decide)
theorem i64_inj {x y : Int32} : x.toInt64 = y.toInt64 ↔ x = y := by
  constructor
  · intro h
    have h1 := congrArg Int64.toInt h
    rw [Int32.toInt_toInt64, Int32.toInt_toInt64] at h1
    exact Int32.toInt_inj.mp h1
  · intro h
    rw [h]
theorem i64_0 {x : Int32} : x.toInt64 = 0 ↔ x = 0 := by
  have h : (0 : Int64) = (0 : Int32).toInt64 := by decide
  rw [h]
  exact i64_inj
theorem oN_none {g : Nat → Int32} {o : Option Nat} (h : oN g o = 4294967296) : o = none := by
  cases o with
  | none => rfl
  | some j => exact absurd h (i64_ne _)
theorem oN_some {g : Nat → Int32} {o : Option Nat} (h : ¬ oN g o = 4294967296) : ∃ j, o = some j := by
  cases o with
  | none => exact absurd rfl h
  | some j => exact ⟨j, rfl⟩
theorem oN_told {g : Nat → Int32} {o : Option Nat} {x : Int32} (h : oN g o = x.toInt64) : ∃ j, o = some j := oN_some (fun q => i64_ne x (h.symm.trans q))
def Inj (f : Nat → Int32) (n : Nat) : Prop := ∀ a b, a < n → b < n → f a = f b → a = b
theorem rL_not {f : Nat → Int32} {v : Int32} : ∀ {n : Nat}, (∀ i, i < n → f i ≠ v) → rL f v n = none
  | 0, _ => rfl
  | n + 1, h => by
    rw [rL_f (h n (Nat.lt_succ_self n))]
    exact rL_not (fun i hi => h i (Nat.lt_succ_of_lt hi))
theorem sw_none {f : Nat → Int32} {k : Int32} {n j : Nat} (hi : Inj f n) (ho : rL f k n = some j) : rL (swF f n j) k (n - 1) = none := by
  obtain ⟨hj, e⟩ := rL_some ho
  refine rL_not (fun i h => ?_)
  unfold swF upd
  by_cases hij : i = j
  · rw [if_pos hij]
    intro q
    have := hi (n - 1) j (by omega) hj (q.trans e.symm)
    omega
  · rw [if_neg hij]
    intro q
    exact hij (hi i j (by omega) hj (q.trans e.symm))
theorem rL_new {f : Nat → Int32} {k : Int32} {n : Nat} : rL (upd f n k) k (n + 1) = some n := rL_t (by simp [upd])
def mpF (f : Nat → Int32) (n : Nat) (g : Nat → Int32) (less : Int32) : Option Nat → Nat → Int32
  | none => f
  | some j => if decide (2 * g j - less - (2 * g j - less) / 10 * 10 = 0) then swF f n j else f
def mpG (g : Nat → Int32) (n : Nat) (less : Int32) : Option Nat → Nat → Int32
  | none => g
  | some j => if decide (2 * g j - less - (2 * g j - less) / 10 * 10 = 0) then swF g n j else upd g j (2 * g j - less)
def inB (lo v hi9 : Int32) : Bool := decide (lo ≤ v) && decide (v ≤ hi9)
theorem cb_1 {f g : Nat → Int32} {a b : Nat} (h : g b < g a) : cb f g a b = true := by
  unfold cb
  rw [decide_eq_true h]
  rfl
theorem cb_2 {f g : Nat → Int32} {a b : Nat} (h : ¬ g b < g a) (h2 : ¬ g a = g b) : cb f g a b = false := by
  unfold cb
  rw [decide_eq_false h, decide_eq_false h2]
  rfl
theorem cb_3 {f g : Nat → Int32} {a b : Nat} (h : ¬ g b < g a) (h2 : g a = g b) (h3 : f b ≤ f a) : cb f g a b = false := by
  unfold cb
  rw [decide_eq_false h, decide_eq_true h2, decide_eq_false (Int32.not_lt.mpr h3)]
  rfl
theorem cb_4 {f g : Nat → Int32} {a b : Nat} (h : ¬ g b < g a) (h2 : g a = g b) (h3 : ¬ f b ≤ f a) : cb f g a b = true := by
  unfold cb
  rw [decide_eq_false h, decide_eq_true h2, decide_eq_true (Int32.not_le.mp h3)]
  rfl
theorem bW_t {f g : Nat → Int32} {i : Nat} (h : cb f g i (bW f g i) = true) : bW f g (i + 1) = i := if_pos h
theorem bW_f {f g : Nat → Int32} {i : Nat} (h : cb f g i (bW f g i) = false) : bW f g (i + 1) = bW f g i := if_neg (by rw [h]; exact Bool.false_ne_true)
theorem upd_upd (f : Nat → Int32) (k : Nat) (x y : Int32) : upd (upd f k x) k y = upd f k y := by
  funext j
  unfold upd
  by_cases h : j = k <;> simp [h]
theorem upd_at (f : Nat → Int32) (k : Nat) (x : Int32) : upd f k x k = x := by simp [upd]
def usM (u : Nat → Int32) (us : Nat) : Option Nat → Nat → Int32
  | none => u
  | some j => upd u j (nI (us + 1))
