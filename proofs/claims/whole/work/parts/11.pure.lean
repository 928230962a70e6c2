/-! pure words of the rows: places, the first place of a number, what a write and a cut make of a row -/
def iO : Option Nat → Int32
  | none => -1
  | some j => nI j
def bI : Bool → Int32
  | false => 0
  | true => 1
def rF (f : Nat → Int32) (v : Int32) : Nat → Option Nat
  | 0 => none
  | n + 1 => match rF f v n with
    | some j => some j
    | none => if f n = v then some n else none
def setO (f : Nat → Int32) (v : Int32) : Option Nat → Nat → Int32
  | none => f
  | some j => upd f j v
def cutF (f : Nat → Int32) (n j : Nat) : Nat → Int32 := va_cpy f f (j + 1) j (n - 1 - j)
def delF (f : Nat → Int32) (n : Nat) : Option Nat → Nat → Int32
  | none => f
  | some j => cutF f n j
def delN (n : Nat) : Option Nat → Nat
  | none => n
  | some _ => n - 1
theorem rF_some {f : Nat → Int32} {v : Int32} : ∀ {n j : Nat}, rF f v n = some j → j < n ∧ f j = v
  | 0, j, h => by simp [rF] at h
  | n + 1, j, h => by
    unfold rF at h
    cases hq : rF f v n with
    | some k =>
      rw [hq] at h
      cases h
      have := rF_some hq
      exact ⟨by omega, this.2⟩
    | none =>
      rw [hq] at h
      by_cases e : f n = v
      · simp only [e, if_true] at h
        cases h
        exact ⟨by omega, e⟩
      · simp only [e, if_false] at h
        cases h
theorem rF_none {f : Nat → Int32} {v : Int32} : ∀ {n : Nat}, rF f v n = none → ∀ i, i < n → f i ≠ v
  | 0, _, i, hi => absurd hi (Nat.not_lt_zero _)
  | n + 1, h, i, hi => by
    unfold rF at h
    cases hq : rF f v n with
    | some k => rw [hq] at h; cases h
    | none =>
      rw [hq] at h
      by_cases e : f n = v
      · simp only [e, if_true] at h
        cases h
      · rcases Nat.lt_or_ge i n with h1 | h1
        · exact rF_none hq i h1
        · have : i = n := by omega
          subst this
          exact e
theorem rF_miss {f : Nat → Int32} {v : Int32} {i : Nat} (h : rF f v i = none) (e : ¬ f i = v) : rF f v (i + 1) = none := by
  unfold rF
  rw [h]
  simp only [e, if_false]
theorem rF_hit {f : Nat → Int32} {v : Int32} {i : Nat} (h : rF f v i = none) (e : f i = v) : ∀ {n : Nat}, i < n → rF f v n = some i
  | 0, hn => absurd hn (Nat.not_lt_zero _)
  | n + 1, hn => by
    unfold rF
    rcases Nat.lt_or_ge i n with h1 | h1
    · rw [rF_hit h e h1]
    · have : i = n := by omega
      subst this
      rw [h]
      simp only [e, if_true]
theorem iO_m1 {o : Option Nat} (h : ∀ j, o = some j → j < 2 ^ 31) : iO o = -1 ↔ o = none := by
  cases o with
  | none => exact ⟨fun _ => rfl, fun _ => rfl⟩
  | some j =>
    refine ⟨fun e => absurd ?_ (nI_pos (h j rfl)), fun e => by cases e⟩
    show iO (some j) < 0
    rw [e]
    decide
theorem iO_neg {o : Option Nat} (h : ∀ j, o = some j → j < 2 ^ 31) : iO o < 0 ↔ o = none := by
  cases o with
  | none => exact ⟨fun _ => rfl, fun _ => by decide⟩
  | some j => exact ⟨fun e => absurd e (nI_pos (h j rfl)), fun e => by cases e⟩
theorem rF_lt {f : Nat → Int32} {v : Int32} {n : Nat} (hn : n ≤ 1000) : ∀ j, rF f v n = some j → j < 2 ^ 31 := fun j h => by
  have := (rF_some h).1
  omega
theorem bI0 {b : Bool} : bI b = 0 ↔ b = false := by cases b <;> decide
theorem bI1 {b : Bool} (h : ¬ bI b = 0) : b = true := by
  cases b with
  | false => exact absurd rfl h
  | true => rfl
theorem bI_nar (b : Bool) : narrow .boolean (.int (bI b)) = .int (bI b) := by cases b <;> rfl
theorem o_none {o : Option Nat} (h : o.isSome = false) : o = none := by cases o with
  | none => rfl
  | some j => cases h
theorem o_some {o : Option Nat} (h : o.isSome = true) : ∃ j, o = some j := by cases o with
  | none => cases h
  | some j => exact ⟨j, rfl⟩
def orO (g : Nat → Int32) (other : Int32) : Option Nat → Int32
  | none => other
  | some j => g j
def oN (g : Nat → Int32) : Option Nat → Int64
  | none => 4294967296
  | some j => (g j).toInt64
def insF (f : Nat → Int32) (n : Nat) (k : Int32) : Option Nat → Nat → Int32
  | none => upd f n k
  | some _ => f
def insG (g : Nat → Int32) (n : Nat) (v : Int32) : Option Nat → Nat → Int32
  | none => upd g n v
  | some j => upd g j v
def insN (n : Nat) : Option Nat → Nat
  | none => n + 1
  | some _ => n
theorem iO_ne {o : Option Nat} (h : ¬ iO o = -1) : ∃ j, o = some j := by cases o with
  | none => exact absurd rfl h
  | some j => exact ⟨j, rfl⟩
theorem rF_ho {f : Nat → Int32} {v : Int32} {n : Nat} : ∀ j, rF f v n = some j → j < n := fun j h => (rF_some h).1
/-! what the loops make, as functions of the rows -/
def sumK (f : Nat → Int32) : Nat → Int64
  | 0 => 0
  | i + 1 => sumK f i + (f i).toInt64
def sumP (f g : Nat → Int32) : Nat → Int64
  | 0 => 0
  | i + 1 => sumP f g i + (1000003 * (f i).toInt64 + (g i).toInt64) * ((g i).toInt64 - 7)
def addF (g : Nat → Int32) (more : Int32) (i : Nat) : Nat → Int32 := fun j => if j < i then g j + more else g j
theorem addF_0 (g : Nat → Int32) (more : Int32) : addF g more 0 = g := by funext j; simp [addF]
theorem addF_i (g : Nat → Int32) (more : Int32) (i : Nat) : addF g more i i = g i := by simp [addF]
theorem addF_s (g : Nat → Int32) (more : Int32) (i : Nat) : upd (addF g more i) i (g i + more) = addF g more (i + 1) := by
  funext j
  unfold addF upd
  by_cases h : j = i
  · subst h; simp
  · by_cases h2 : j < i
    · have : j < i + 1 := by omega
      simp [h, h2, this]
    · have : ¬ j < i + 1 := by omega
      simp [h, h2, this]
/-- two rows and how many places are in use -/
abbrev T2 : Type := (Nat → Int32) × (Nat → Int32) × Nat
abbrev T1 : Type := (Nat → Int32) × Nat
abbrev T3 : Type := (Nat → Int32) × (Nat → Int32) × (Nat → Int32) × Nat
def cut2 (s : T2) (i : Nat) : T2 := (cutF s.1 s.2.2 i, cutF s.2.1 s.2.2 i, s.2.2 - 1)
def cut1 (s : T1) (i : Nat) : T1 := (cutF s.1 s.2 i, s.2 - 1)
def dropW (p : Int32 → Int32 → Bool) : Nat → T2 → T2
  | 0, s => s
  | i + 1, s => dropW p i (if p (s.1 i) (s.2.1 i) then cut2 s i else s)
def dropR (p : Int32 → Bool) : Nat → T1 → T1
  | 0, s => s
  | i + 1, s => dropR p i (if p (s.1 i) then cut1 s i else s)
def ins2 (s : T2) (k v : Int32) : T2 := (insF s.1 s.2.2 k (rF s.1 k s.2.2), insG s.2.1 s.2.2 v (rF s.1 k s.2.2), insN s.2.2 (rF s.1 k s.2.2))
def insW (kf vf : Nat → Int32) : Nat → T2 → T2
  | 0, s => s
  | i + 1, s => ins2 (insW kf vf i s) (kf i) (vf i)
def ins1 (s : T1) (k : Int32) : T1 := if (rF s.1 k s.2).isSome then s else (upd s.1 s.2 k, s.2 + 1)
def mkW (kf : Nat → Int32) : Nat → T1 → T1
  | 0, s => s
  | i + 1, s => ins1 (mkW kf i s) (kf i)
def cntP (q : Nat → Bool) : Nat → Nat
  | 0 => 0
  | i + 1 => if q i then cntP q i + 1 else cntP q i
theorem cntP_le (q : Nat → Bool) : ∀ i, cntP q i ≤ i
  | 0 => Nat.le_refl _
  | i + 1 => by
    have := cntP_le q i
    unfold cntP
    split <;> omega
def dK (step : Int32) (many : Nat) : Nat := match rF (fun i => nI (i + 1) * step) 0 (many - 1) with
  | none => many
  | some j => j + 1
theorem dK_le (step : Int32) (many : Nat) : dK step many ≤ many := by
  unfold dK
  cases h : rF (fun i => nI (i + 1) * step) 0 (many - 1) with
  | none => exact Nat.le_refl _
  | some j =>
    have := (rF_some h).1
    show j + 1 ≤ many
    omega
theorem insN_ge (n : Nat) (o : Option Nat) : n ≤ insN n o ∧ insN n o ≤ n + 1 := by cases o <;> simp [insN]
theorem insW_mono (kf vf : Nat → Int32) (s : T2) : ∀ {i n : Nat}, i ≤ n → (insW kf vf i s).2.2 ≤ (insW kf vf n s).2.2
  | i, 0, h => by
    have : i = 0 := by omega
    subst this
    exact Nat.le_refl _
  | i, n + 1, h => by
    rcases Nat.lt_or_ge n i with h1 | h1
    · have : i = n + 1 := by omega
      subst this
      exact Nat.le_refl _
    · exact Nat.le_trans (insW_mono kf vf s h1) (insN_ge _ _).1
theorem ins1_ge (s : T1) (k : Int32) : s.2 ≤ (ins1 s k).2 := by
  unfold ins1
  split
  · exact Nat.le_refl _
  · exact Nat.le_succ _
theorem mkW_mono (kf : Nat → Int32) (s : T1) : ∀ {i n : Nat}, i ≤ n → (mkW kf i s).2 ≤ (mkW kf n s).2
  | i, 0, h => by
    have : i = 0 := by omega
    subst this
    exact Nat.le_refl _
  | i, n + 1, h => by
    rcases Nat.lt_or_ge n i with h1 | h1
    · have : i = n + 1 := by omega
      subst this
      exact Nat.le_refl _
    · exact Nat.le_trans (mkW_mono kf s h1) (ins1_ge _ _)
def cb (f g : Nat → Int32) (a b : Nat) : Bool := decide (g b < g a) || (decide (g a = g b) && decide (f a < f b))
def bW (f g : Nat → Int32) : Nat → Nat
  | 0 => 0
  | i + 1 => if cb f g i (bW f g i) then i else bW f g i
theorem bW_lt (f g : Nat → Int32) : ∀ i, 0 < i → bW f g i < i
  | 0, h => absurd h (Nat.lt_irrefl _)
  | i + 1, _ => by
    unfold bW
    split
    · omega
    · rcases Nat.eq_zero_or_pos i with h | h
      · subst h; simp [bW]
      · have := bW_lt f g i h; omega
def cut3 (s : T3) (i : Nat) : T3 := (cutF s.1 s.2.2.2 i, cutF s.2.1 s.2.2.2 i, cutF s.2.2.1 s.2.2.2 i, s.2.2.2 - 1)
def del3 (s : T3) : Option Nat → T3
  | none => s
  | some j => cut3 s j
def dr3 : Nat → T3 → T3
  | 0, s => s
  | i + 1, s => cut3 (dr3 i s) 0
theorem dr3_n (s : T3) : ∀ i, (dr3 i s).2.2.2 = s.2.2.2 - i
  | 0 => rfl
  | i + 1 => by
    have := dr3_n s i
    show (dr3 i s).2.2.2 - 1 = _
    omega
def wlk (f g : Nat → Int32) : Nat → Int64
  | 0 => 7
  | i + 1 => 31 * (31 * wlk f g i + (f i).toInt64) + (g i).toInt64
theorem lg_cmp_0 {x y : Int64} : lg_cmp x y = 0 ↔ x = y := by
  unfold lg_cmp
  constructor
  · intro h
    by_cases h1 : x > y
    · simp only [h1, if_true] at h; exact absurd h (by decide)
    · by_cases h2 : x = y
      · exact h2
      · simp only [h1, h2, if_false] at h; exact absurd h (by decide)
  · intro h
    subst h
    have : ¬ x > x := Int64.lt_irrefl
    simp only [this, if_false, if_true]
def insA (g : Nat → Int32) (n : Nat) (v : Int32) : Option Nat → Nat → Int32
  | none => upd g n v
  | some _ => g
def mrgA (g : Nat → Int32) (v : Int32) : Option Nat → Int64
  | none => v.toInt64
  | some j => if decide (g j + v = 0) then 4294967296 else (g j + v).toInt64
def mrgN (n : Nat) (g : Nat → Int32) (v : Int32) : Option Nat → Nat
  | none => n + 1
  | some j => if decide (g j + v = 0) then n - 1 else n
def mrgF (f : Nat → Int32) (n : Nat) (k : Int32) (g : Nat → Int32) (v : Int32) : Option Nat → Nat → Int32
  | none => upd f n k
  | some j => if decide (g j + v = 0) then cutF f n j else f
def mrgG (g : Nat → Int32) (n : Nat) (v : Int32) : Option Nat → Nat → Int32
  | none => upd g n v
  | some j => if decide (g j + v = 0) then cutF g n j else upd g j (g j + v)
def cpaA (g : Nat → Int32) (k : Int32) : Option Nat → Int64
  | none => if k - k / 7 * 7 = 0 then 4294967296 else (3 * k + 1).toInt64
  | some j => (g j).toInt64
def cpaN (n : Nat) (k : Int32) : Option Nat → Nat
  | none => if k - k / 7 * 7 = 0 then n else n + 1
  | some _ => n
def cpaF (f : Nat → Int32) (n : Nat) (k : Int32) : Option Nat → Nat → Int32
  | none => if k - k / 7 * 7 = 0 then f else upd f n k
  | some _ => f
def cpaG (g : Nat → Int32) (n : Nat) (k : Int32) : Option Nat → Nat → Int32
  | none => if k - k / 7 * 7 = 0 then g else upd g n (3 * k + 1)
  | some _ => g
def c2 (x less : Int32) : Int32 := 2 * x - less
def cppA (g : Nat → Int32) (less : Int32) : Option Nat → Int64
  | none => 4294967296
  | some j => if decide (2 * g j - less - (2 * g j - less) / 10 * 10 = 0) then 4294967296 else (2 * g j - less).toInt64
def cppN (n : Nat) (g : Nat → Int32) (less : Int32) : Option Nat → Nat
  | none => n
  | some j => if decide (2 * g j - less - (2 * g j - less) / 10 * 10 = 0) then n - 1 else n
def cppF (f : Nat → Int32) (n : Nat) (g : Nat → Int32) (less : Int32) : Option Nat → Nat → Int32
  | none => f
  | some j => if decide (2 * g j - less - (2 * g j - less) / 10 * 10 = 0) then cutF f n j else f
def cppG (g : Nat → Int32) (n : Nat) (less : Int32) : Option Nat → Nat → Int32
  | none => g
  | some j => if decide (2 * g j - less - (2 * g j - less) / 10 * 10 = 0) then cutF g n j else upd g j (2 * g j - less)
