/-! pure words of the rows: places, the first place of a number, what a write and a cut make of a row -/
def iO : Option Nat → Int32
  | none => -1
  | some j => nI j
def bI : Bool → Int32
  | false => 0
  | true => 1
def rF (f : Nat → Int32) (v : Int32) : Nat → Option Nat
  | 0 => none
  | n + 1 => match rF f v n with
    | some j => some j
    | none => if f n = v then some n else none
def setO (f : Nat → Int32) (v : Int32) : Option Nat → Nat → Int32
  | none => f
  | some j => upd f j v
def cutF (f : Nat → Int32) (n j : Nat) : Nat → Int32 := va_cpy f f (j + 1) j (n - 1 - j)
def delF (f : Nat → Int32) (n : Nat) : Option Nat → Nat → Int32
  | none => f
  | some j => cutF f n j
def delN (n : Nat) : Option Nat → Nat
  | none => n
  | some _ => n - 1
theorem rF_some {f : Nat → Int32} {v : Int32} : ∀ {n j : Nat}, rF f v n = some j → j < n ∧ f j = v
  | 0, j, h => by simp [rF] at h
  | n + 1, j, h => by
    unfold rF at h
    cases hq : rF f v n with
    | some k =>
      rw [hq] at h
      cases h
      have := rF_some hq
      exact ⟨by omega, this.2⟩
    | none =>
      rw [hq] at h
      by_cases e : f n = v
      · simp only [e, if_true] at h
        cases h
        exact ⟨by omega, e⟩
      · simp only [e, if_false] at h
        cases h
theorem rF_none {f : Nat → Int32} {v : Int32} : ∀ {n : Nat}, rF f v n = none → ∀ i, i < n → f i ≠ v
  | 0, _, i, hi => absurd hi (Nat.not_lt_zero _)
  | n + 1, h, i, hi => by
    unfold rF at h
    cases hq : rF f v n with
    | some k => rw [hq] at h; cases h
    | none =>
      rw [hq] at h
      by_cases e : f n = v
      · simp only [e, if_true] at h
        cases h
      · rcases Nat.lt_or_ge i n with h1 | h1
        · exact rF_none hq i h1
        · have : i = n := by omega
          subst this
          exact e
theorem rF_miss {f : Nat → Int32} {v : Int32} {i : Nat} (h : rF f v i = none) (e : ¬ f i = v) : rF f v (i + 1) = none := by
  unfold rF
  rw [h]
  simp only [e, if_false]
theorem rF_hit {f : Nat → Int32} {v : Int32} {i : Nat} (h : rF f v i = none) (e : f i = v) : ∀ {n : Nat}, i < n → rF f v n = some i
  | 0, hn => absurd hn (Nat.not_lt_zero _)
  | n + 1, hn => by
    unfold rF
    rcases Nat.lt_or_ge i n with h1 | h1
    · rw [rF_hit h e h1]
    · have : i = n := by omega
      subst this
      rw [h]
      simp only [e, if_true]
theorem iO_m1 {o : Option Nat} (h : ∀ j, o = some j → j < 2 ^ 31) : iO o = -1 ↔ o = none := by
  cases o with
  | none => exact ⟨fun _ => rfl, fun _ => rfl⟩
  | some j =>
    refine ⟨fun e => absurd ?_ (nI_pos (h j rfl)), fun e => by cases e⟩
    show iO (some j) < 0
    rw [e]
    decide
theorem iO_neg {o : Option Nat} (h : ∀ j, o = some j → j < 2 ^ 31) : iO o < 0 ↔ o = none := by
  cases o with
  | none => exact ⟨fun _ => rfl, fun _ => by decide⟩
  | some j => exact ⟨fun e => absurd e (nI_pos (h j rfl)), fun e => by cases e⟩
theorem rF_lt {f : Nat → Int32} {v : Int32} {n : Nat} (hn : n ≤ 1000) : ∀ j, rF f v n = some j → j < 2 ^ 31 := fun j h => by
  have := (rF_some h).1
  omega
theorem bI0 {b : Bool} : bI b = 0 ↔ b = false := by cases b <;> decide
theorem bI1 {b : Bool} (h : ¬ bI b = 0) : b = true := by
  cases b with
  | false => exact absurd rfl h
  | true => rfl
theorem bI_nar (b : Bool) : narrow .boolean (.int (bI b)) = .int (bI b) := by cases b <;> rfl
theorem o_none {o : Option Nat} (h : o.isSome = false) : o = none := by cases o with
  | none => rfl
  | some j => cases h
theorem o_some {o : Option Nat} (h : o.isSome = true) : ∃ j, o = some j := by cases o with
  | none => cases h
  | some j => exact ⟨j, rfl⟩
def orO (g : Nat → Int32) (other : Int32) : Option Nat → Int32
  | none => other
  | some j => g j
def oN (g : Nat → Int32) : Option Nat → Int64
  | none => 4294967296
  | some j => (g j).toInt64
def insF (f : Nat → Int32) (n : Nat) (k : Int32) : Option Nat → Nat → Int32
  | none => upd f n k
  | some _ => f
def insG (g : Nat → Int32) (n : Nat) (v : Int32) : Option Nat → Nat → Int32
  | none => upd g n v
  | some j => upd g j v
def insN (n : Nat) : Option Nat → Nat
  | none => n + 1
  | some _ => n
theorem iO_ne {o : Option Nat} (h : ¬ iO o = -1) : ∃ j, o = some j := by cases o with
  | none => exact absurd rfl h
  | some j => exact ⟨j, rfl⟩
theorem rF_ho {f : Nat → Int32} {v : Int32} {n : Nat} : ∀ j, rF f v n = some j → j < n := fun j h => (rF_some h).1
