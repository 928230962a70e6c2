/-! the class' rows and the reference's rows hold the same -/
def Hs (s : T2) (k v : Int32) : Prop := ∃ i, i < s.2.2 ∧ s.1 i = k ∧ s.2.1 i = v
def R2 (a b : T2) : Prop := Inj a.1 a.2.2 ∧ Inj b.1 b.2.2 ∧ ∀ k v, Hs a k v ↔ Hs b k v
def Fnd (f : Nat → Int32) (n : Nat) (k : Int32) (o : Option Nat) : Prop := (∀ j, o = some j → j < n ∧ f j = k) ∧ (o = none → ∀ i, i < n → f i ≠ k)
theorem Fnd_rF (f : Nat → Int32) (n : Nat) (k : Int32) : Fnd f n k (rF f k n) := ⟨fun _ h => rF_some h, fun h => rF_none h⟩
theorem Fnd_rL (f : Nat → Int32) (n : Nat) (k : Int32) : Fnd f n k (rL f k n) := ⟨fun _ h => rL_some h, fun h => rL_none h⟩
theorem Fnd_of {f : Nat → Int32} {n : Nat} {k : Int32} {o : Option Nat} {i : Nat} (h : Fnd f n k o) (hi : Inj f n) (hn : i < n) (e : f i = k) : o = some i := by
  cases o with
  | none => exact absurd e (h.2 rfl i hn)
  | some j =>
    obtain ⟨h1, h2⟩ := h.1 j rfl
    rw [hi j i h1 hn (h2.trans e.symm)]
theorem R2_map {a b : T2} (h : R2 a b) {k : Int32} {o o' : Option Nat} (ho : Fnd a.1 a.2.2 k o) (ho' : Fnd b.1 b.2.2 k o') : o.map a.2.1 = o'.map b.2.1 := by
  obtain ⟨ha, hb, hs⟩ := h
  cases o with
  | none =>
    cases o' with
    | none => rfl
    | some j =>
      obtain ⟨h1, h2⟩ := ho'.1 j rfl
      obtain ⟨i, h3, h4, -⟩ := (hs k (b.2.1 j)).mpr ⟨j, h1, h2, rfl⟩
      exact absurd h4 (ho.2 rfl i h3)
  | some i =>
    obtain ⟨h1, h2⟩ := ho.1 i rfl
    obtain ⟨j, h3, h4, h5⟩ := (hs k (a.2.1 i)).mp ⟨i, h1, h2, rfl⟩
    rw [Fnd_of ho' hb h3 h4]
    show some (a.2.1 i) = some (b.2.1 j)
    rw [h5]
theorem oN_map {g g' : Nat → Int32} {o o' : Option Nat} (h : o.map g = o'.map g') : oN g o = oN g' o' := by
  cases o <;> cases o' <;> simp [oN] at h ⊢
  rw [h]
theorem orO_map {g g' : Nat → Int32} {o o' : Option Nat} (x : Int32) (h : o.map g = o'.map g') : orO g x o = orO g' x o' := by
  cases o <;> cases o' <;> simp [orO] at h ⊢
  exact h
theorem isS_map {g g' : Nat → Int32} {o o' : Option Nat} (h : o.map g = o'.map g') : o.isSome = o'.isSome := by
  cases o <;> cases o' <;> simp at h ⊢
theorem o_both {g g' : Nat → Int32} {o o' : Option Nat} (h : o.map g = o'.map g') : (o = none ∧ o' = none) ∨ ∃ i j, o = some i ∧ o' = some j ∧ g i = g' j := by
  cases o with
  | none =>
    cases o' with
    | none => exact Or.inl ⟨rfl, rfl⟩
    | some j => cases h
  | some i =>
    cases o' with
    | none => cases h
    | some j =>
      refine Or.inr ⟨i, j, rfl, rfl, ?_⟩
      simpa using h
/-! taking one out, by a map of the places -/
def RemE (n j : Nat) (e : Nat → Nat) : Prop := (∀ i, i < n - 1 → e i < n ∧ e i ≠ j) ∧ (∀ i, i < n → i ≠ j → ∃ i', i' < n - 1 ∧ e i' = i) ∧ ∀ a b, a < n - 1 → b < n - 1 → e a = e b → a = b
def cutE (j i : Nat) : Nat := if i < j then i else i + 1
def swE (n j i : Nat) : Nat := if i = j then n - 1 else i
theorem RemE_cut {n j : Nat} (hj : j < n) : RemE n j (cutE j) := by
  refine ⟨fun i hi => ?_, fun i hi hij => ?_, fun a b ha hb he => ?_⟩
  · unfold cutE; split <;> omega
  · rcases Nat.lt_or_ge i j with h | h
    · exact ⟨i, by omega, if_pos h⟩
    · refine ⟨i - 1, by omega, ?_⟩
      unfold cutE
      rw [if_neg (by omega)]
      omega
  · unfold cutE at he
    split at he <;> split at he <;> omega
theorem RemE_sw {n j : Nat} (hj : j < n) : RemE n j (swE n j) := by
  refine ⟨fun i hi => ?_, fun i hi hij => ?_, fun a b ha hb he => ?_⟩
  · unfold swE; split <;> omega
  · by_cases h : i = n - 1
    · exact ⟨j, by omega, by unfold swE; rw [if_pos rfl]; exact h.symm⟩
    · exact ⟨i, by omega, if_neg hij⟩
  · unfold swE at he
    split at he <;> split at he <;> omega
theorem cutF_e {f : Nat → Int32} {n j i : Nat} (hi : i < n - 1) : cutF f n j i = f (cutE j i) := by
  unfold cutF va_cpy cutE
  by_cases h : i < j
  · rw [if_neg (by omega), if_pos h]
  · rw [if_pos (by omega), if_neg h]
    exact congrArg f (by omega)
theorem swF_e {f : Nat → Int32} {n j i : Nat} : swF f n j i = f (swE n j i) := by
  unfold swF upd swE
  by_cases h : i = j
  · rw [if_pos h, if_pos h]
  · rw [if_neg h, if_neg h]
theorem Rem_Inj {f f' : Nat → Int32} {n j : Nat} {e : Nat → Nat} (he : RemE n j e) (h : ∀ i, i < n - 1 → f' i = f (e i)) (hi : Inj f n) : Inj f' (n - 1) := fun a b ha hb hab => by
  rw [h a ha, h b hb] at hab
  exact he.2.2 a b ha hb (hi _ _ (he.1 a ha).1 (he.1 b hb).1 hab)
theorem Rem_Hs {f f' g g' : Nat → Int32} {n j : Nat} {e : Nat → Nat} (hj : j < n) (he : RemE n j e) (h : ∀ i, i < n - 1 → f' i = f (e i)) (h2 : ∀ i, i < n - 1 → g' i = g (e i)) (hi : Inj f n) (k v : Int32) : Hs (f', g', n - 1) k v ↔ k ≠ f j ∧ Hs (f, g, n) k v := by
  constructor
  · rintro ⟨i, h3, h4, h5⟩
    dsimp only at h3 h4 h5
    rw [h i h3] at h4
    rw [h2 i h3] at h5
    refine ⟨fun q => (he.1 i h3).2 (hi _ _ (he.1 i h3).1 hj (h4.trans q)), e i, (he.1 i h3).1, h4, h5⟩
  · rintro ⟨hk, i, h3, h4, h5⟩
    dsimp only at h3 h4 h5
    obtain ⟨i', h6, h7⟩ := he.2.1 i h3 (fun q => hk (by rw [← h4, q]))
    exact ⟨i', h6, by show f' i' = k; rw [h i' h6, h7]; exact h4, by show g' i' = v; rw [h2 i' h6, h7]; exact h5⟩
theorem cut_Inj {f : Nat → Int32} {n j : Nat} (hj : j < n) (hi : Inj f n) : Inj (cutF f n j) (n - 1) := Rem_Inj (RemE_cut hj) (fun i h => cutF_e h) hi
theorem swp_Inj {f : Nat → Int32} {n j : Nat} (hj : j < n) (hi : Inj f n) : Inj (swF f n j) (n - 1) := Rem_Inj (RemE_sw hj) (fun i h => swF_e) hi
theorem cut_Hs {f g : Nat → Int32} {n j : Nat} (hj : j < n) (hi : Inj f n) (k v : Int32) : Hs (cutF f n j, cutF g n j, n - 1) k v ↔ k ≠ f j ∧ Hs (f, g, n) k v := Rem_Hs hj (RemE_cut hj) (fun i h => cutF_e h) (fun i h => cutF_e h) hi k v
theorem swp_Hs {f g : Nat → Int32} {n j : Nat} (hj : j < n) (hi : Inj f n) (k v : Int32) : Hs (swF f n j, swF g n j, n - 1) k v ↔ k ≠ f j ∧ Hs (f, g, n) k v := Rem_Hs hj (RemE_sw hj) (fun i h => swF_e) (fun i h => swF_e) hi k v
theorem R2_rem {f g f' g' : Nat → Int32} {n n' i j : Nat} (h : R2 (f, g, n) (f', g', n')) (hi : i < n) (hj : j < n') (e : f i = f' j) : R2 (cutF f n i, cutF g n i, n - 1) (swF f' n' j, swF g' n' j, n' - 1) := by
  refine ⟨cut_Inj hi h.1, swp_Inj hj h.2.1, fun k v => ?_⟩
  have h1 := cut_Hs (f := f) (g := g) hi h.1 k v
  have h2 := swp_Hs (f := f') (g := g') hj h.2.1 k v
  exact h1.trans ((and_congr (by rw [e]) (h.2.2 k v)).trans h2.symm)
theorem R2_del {f g f' g' : Nat → Int32} {n n' : Nat} {k : Int32} {o o' : Option Nat} (h : R2 (f, g, n) (f', g', n')) (ho : Fnd f n k o) (ho' : Fnd f' n' k o') : R2 (delF f n o, delF g n o, delN n o) (swO f' n' o', swO g' n' o', delN n' o') := by
  rcases o_both (R2_map h ho ho') with ⟨rfl, rfl⟩ | ⟨i, j, rfl, rfl, -⟩
  · exact h
  · obtain ⟨h1, h2⟩ := ho.1 i rfl
    obtain ⟨h3, h4⟩ := ho'.1 j rfl
    exact R2_rem h h1 h3 (h2.trans h4.symm)
/-! putting one in -/
theorem ins_Inj {f : Nat → Int32} {n : Nat} {k : Int32} {o : Option Nat} (hi : Inj f n) (ho : Fnd f n k o) : Inj (insF f n k o) (insN n o) := by
  cases o with
  | some j => exact hi
  | none =>
    intro a b ha hb e
    have hn := ho.2 rfl
    have h1 : a < n + 1 := ha
    have h2 : b < n + 1 := hb
    have e : upd f n k a = upd f n k b := e
    unfold upd at e
    by_cases ea : a = n
    · by_cases eb : b = n
      · omega
      · rw [if_pos ea, if_neg eb] at e
        exact absurd e.symm (hn b (by omega))
    · by_cases eb : b = n
      · rw [if_neg ea, if_pos eb] at e
        exact absurd e (hn a (by omega))
      · rw [if_neg ea, if_neg eb] at e
        exact hi a b (by omega) (by omega) e
theorem ins_Hs {f g : Nat → Int32} {n : Nat} {k v : Int32} {o : Option Nat} (hi : Inj f n) (ho : Fnd f n k o) (k' v' : Int32) : Hs (insF f n k o, insG g n v o, insN n o) k' v' ↔ (k' = k ∧ v' = v) ∨ (k' ≠ k ∧ Hs (f, g, n) k' v') := by
  cases o with
  | none =>
    have hn := ho.2 rfl
    constructor
    · rintro ⟨i, h1, h2, h3⟩
      have h1 : i < n + 1 := h1
      have h2 : upd f n k i = k' := h2
      have h3 : upd g n v i = v' := h3
      unfold upd at h2 h3
      by_cases ei : i = n
      · rw [if_pos ei] at h2 h3
        exact Or.inl ⟨h2.symm, h3.symm⟩
      · rw [if_neg ei] at h2 h3
        exact Or.inr ⟨fun q => hn i (by omega) (h2.trans q), i, by show i < n; omega, h2, h3⟩
    · rintro (⟨rfl, rfl⟩ | ⟨hk, i, h1, h2, h3⟩)
      · exact ⟨n, Nat.lt_succ_self n, upd_at _ _ _, upd_at _ _ _⟩
      · have h1 : i < n := h1
        refine ⟨i, Nat.lt_succ_of_lt h1, ?_, ?_⟩
        · show upd f n k i = k'
          unfold upd
          rw [if_neg (by omega)]
          exact h2
        · show upd g n v i = v'
          unfold upd
          rw [if_neg (by omega)]
          exact h3
  | some j =>
    obtain ⟨hj, ej⟩ := ho.1 j rfl
    constructor
    · rintro ⟨i, h1, h2, h3⟩
      have h1 : i < n := h1
      have h2 : f i = k' := h2
      have h3 : upd g j v i = v' := h3
      unfold upd at h3
      by_cases ei : i = j
      · rw [if_pos ei] at h3
        rw [ei] at h2
        exact Or.inl ⟨h2.symm.trans ej, h3.symm⟩
      · rw [if_neg ei] at h3
        exact Or.inr ⟨fun q => ei (hi i j h1 hj ((h2.trans q).trans ej.symm)), i, h1, h2, h3⟩
    · rintro (⟨rfl, rfl⟩ | ⟨hk, i, h1, h2, h3⟩)
      · exact ⟨j, hj, ej, upd_at _ _ _⟩
      · have h2 : f i = k' := h2
        refine ⟨i, h1, h2, ?_⟩
        show upd g j v i = v'
        unfold upd
        rw [if_neg (fun q => hk (by rw [← h2, q, ej]))]
        exact h3
theorem R2_ins {f g f' g' : Nat → Int32} {n n' : Nat} {k : Int32} (v : Int32) {o o' : Option Nat} (h : R2 (f, g, n) (f', g', n')) (ho : Fnd f n k o) (ho' : Fnd f' n' k o') : R2 (insF f n k o, insG g n v o, insN n o) (insF f' n' k o', insG g' n' v o', insN n' o') := by
  refine ⟨ins_Inj h.1 ho, ins_Inj h.2.1 ho', fun k' v' => ?_⟩
  rw [ins_Hs h.1 ho, ins_Hs h.2.1 ho', h.2.2 k' v']
theorem R2_insA {f g f' g' : Nat → Int32} {n n' : Nat} {k : Int32} (v : Int32) {o o' : Option Nat} (h : R2 (f, g, n) (f', g', n')) (ho : Fnd f n k o) (ho' : Fnd f' n' k o') : R2 (insF f n k o, insA g n v o, insN n o) (insF f' n' k o', insA g' n' v o', insN n' o') := by
  rcases o_both (R2_map h ho ho') with ⟨rfl, rfl⟩ | ⟨i, j, rfl, rfl, -⟩
  · exact R2_ins v h ho ho'
  · exact h
theorem R2_set {f g f' g' : Nat → Int32} {n n' : Nat} {k : Int32} (v : Int32) {o o' : Option Nat} (h : R2 (f, g, n) (f', g', n')) (ho : Fnd f n k o) (ho' : Fnd f' n' k o') : R2 (f, setO g v o, n) (f', setO g' v o', n') := by
  rcases o_both (R2_map h ho ho') with ⟨rfl, rfl⟩ | ⟨i, j, rfl, rfl, -⟩
  · exact h
  · exact R2_ins v h ho ho'
/-! sizes and sums -/
theorem Hs_last {f g : Nat → Int32} {n : Nat} (hi : Inj f (n + 1)) (k v : Int32) : Hs (f, g, n) k v ↔ k ≠ f n ∧ Hs (f, g, n + 1) k v := by
  constructor
  · rintro ⟨i, h1, h2, h3⟩
    have h1 : i < n := h1
    have h2 : f i = k := h2
    refine ⟨fun q => ?_, i, Nat.lt_succ_of_lt h1, h2, h3⟩
    have := hi i n (by omega) (by omega) (h2.trans q)
    omega
  · rintro ⟨hk, i, h1, h2, h3⟩
    have h1 : i < n + 1 := h1
    have h2 : f i = k := h2
    refine ⟨i, ?_, h2, h3⟩
    show i < n
    rcases Nat.lt_or_ge i n with h | h
    · exact h
    · have : i = n := by omega
      subst this
      exact absurd h2.symm hk
theorem R2_last {f g f' g' : Nat → Int32} {n n' : Nat} (h : R2 (f, g, n + 1) (f', g', n')) : ∃ j, j < n' ∧ f' j = f n ∧ g' j = g n ∧ R2 (f, g, n) (swF f' n' j, swF g' n' j, n' - 1) := by
  obtain ⟨j, h1, h2, h3⟩ := (h.2.2 (f n) (g n)).mp ⟨n, Nat.lt_succ_self n, rfl, rfl⟩
  refine ⟨j, h1, h2, h3, fun a b ha hb => h.1 a b (Nat.lt_succ_of_lt ha) (Nat.lt_succ_of_lt hb), swp_Inj h1 h.2.1, fun k v => ?_⟩
  have h2 : f' j = f n := h2
  have q1 := Hs_last (f := f) (g := g) h.1 k v
  have q2 := swp_Hs (f := f') (g := g') h1 h.2.1 k v
  exact q1.trans ((and_congr (by rw [h2]) (h.2.2 k v)).trans q2.symm)
theorem R2_n : ∀ {n n' : Nat} {f g f' g' : Nat → Int32}, R2 (f, g, n) (f', g', n') → n = n'
  | 0, n', f, g, f', g', h => by
    rcases Nat.eq_zero_or_pos n' with q | q
    · exact q.symm
    · obtain ⟨i, h1, -⟩ := (h.2.2 (f' 0) (g' 0)).mpr ⟨0, q, rfl, rfl⟩
      exact absurd h1 (Nat.not_lt_zero _)
  | n + 1, n', f, g, f', g', h => by
    obtain ⟨j, h1, -, -, h4⟩ := R2_last h
    have := R2_n h4
    omega
def sumX {α : Type} (add : α → α → α) (z : α) (h : Int32 → Int32 → α) (f g : Nat → Int32) : Nat → α
  | 0 => z
  | n + 1 => add (sumX add z h f g n) (h (f n) (g n))
theorem sumX_congr {α : Type} {add : α → α → α} {z : α} {h : Int32 → Int32 → α} {f g f' g' : Nat → Int32} : ∀ {n : Nat}, (∀ i, i < n → f i = f' i ∧ g i = g' i) → sumX add z h f g n = sumX add z h f' g' n
  | 0, _ => rfl
  | n + 1, hq => by
    show add _ _ = add _ _
    rw [sumX_congr (fun i hi => hq i (Nat.lt_succ_of_lt hi)), (hq n (Nat.lt_succ_self n)).1, (hq n (Nat.lt_succ_self n)).2]
theorem sumX_upd {α : Type} {add : α → α → α} {z : α} {h : Int32 → Int32 → α} (hc : ∀ a b, add a b = add b a) (ha : ∀ a b c, add (add a b) c = add a (add b c)) {f g : Nat → Int32} {x y : Int32} {j : Nat} : ∀ {n : Nat}, j < n → add (sumX add z h (upd f j x) (upd g j y) n) (h (f j) (g j)) = add (sumX add z h f g n) (h x y)
  | 0, hj => absurd hj (Nat.not_lt_zero _)
  | n + 1, hj => by
    show add (add _ _) _ = add (add _ _) _
    by_cases e : j = n
    · subst e
      rw [upd_at, upd_at, sumX_congr (f' := f) (g' := g) (fun i hi => by unfold upd; rw [if_neg (by omega), if_neg (by omega)]; exact ⟨rfl, rfl⟩), ha, ha, hc (h x y)]
    · have ih := sumX_upd (z := z) (h := h) hc ha (f := f) (g := g) (x := x) (y := y) (show j < n by omega)
      have e1 : upd f j x n = f n := by unfold upd; rw [if_neg (by omega)]
      have e2 : upd g j y n = g n := by unfold upd; rw [if_neg (by omega)]
      rw [e1, e2, ha, hc (h (f n) (g n)), ← ha, ih, ha, ha, hc (h x y)]
theorem sumX_sw {α : Type} {add : α → α → α} {z : α} {h : Int32 → Int32 → α} (hc : ∀ a b, add a b = add b a) (ha : ∀ a b c, add (add a b) c = add a (add b c)) {f g : Nat → Int32} {n j : Nat} (hj : j < n) : add (sumX add z h (swF f n j) (swF g n j) (n - 1)) (h (f j) (g j)) = sumX add z h f g n := by
  obtain ⟨m, rfl⟩ : ∃ m, n = m + 1 := ⟨n - 1, by omega⟩
  show add (sumX add z h (upd f j (f m)) (upd g j (g m)) m) _ = add (sumX add z h f g m) (h (f m) (g m))
  by_cases e : j = m
  · subst e
    rw [sumX_congr (f' := f) (g' := g) (fun i hi => by unfold upd; rw [if_neg (by omega), if_neg (by omega)]; exact ⟨rfl, rfl⟩)]
  · exact sumX_upd hc ha (show j < m by omega)
theorem sumX_eq {α : Type} {add : α → α → α} {z : α} {h : Int32 → Int32 → α} (hc : ∀ a b, add a b = add b a) (ha : ∀ a b c, add (add a b) c = add a (add b c)) : ∀ {n n' : Nat} {f g f' g' : Nat → Int32}, R2 (f, g, n) (f', g', n') → sumX add z h f g n = sumX add z h f' g' n'
  | 0, n', f, g, f', g', hr => by
    have := R2_n hr
    subst this
    rfl
  | n + 1, n', f, g, f', g', hr => by
    obtain ⟨j, h1, h2, h3, h4⟩ := R2_last hr
    show add (sumX add z h f g n) (h (f n) (g n)) = _
    rw [sumX_eq hc ha h4, ← h2, ← h3]
    exact sumX_sw hc ha h1
theorem sumK_X (f g : Nat → Int32) : ∀ n, sumK f n = sumX (fun a b : Int64 => a + b) 0 (fun k _ => k.toInt64) f g n
  | 0 => rfl
  | n + 1 => by show sumK f n + _ = sumX _ _ _ f g n + _; rw [sumK_X f g n]
theorem sumK_X2 (f g : Nat → Int32) : ∀ n, sumK g n = sumX (fun a b : Int64 => a + b) 0 (fun _ v => v.toInt64) f g n
  | 0 => rfl
  | n + 1 => by show sumK g n + _ = sumX _ _ _ f g n + _; rw [sumK_X2 f g n]
theorem sumP_X (f g : Nat → Int32) : ∀ n, sumP f g n = sumX (fun a b : Int64 => a + b) 0 (fun k v => (1000003 * k.toInt64 + v.toInt64) * (v.toInt64 - 7)) f g n
  | 0 => rfl
  | n + 1 => by show sumP f g n + _ = sumX _ _ _ f g n + _; rw [sumP_X f g n]
theorem R2_sumK {f g f' g' : Nat → Int32} {n n' : Nat} (h : R2 (f, g, n) (f', g', n')) : sumK f n = sumK f' n' := by
  rw [sumK_X f g, sumK_X f' g']
  exact sumX_eq Int64.add_comm Int64.add_assoc h
theorem R2_sumV {f g f' g' : Nat → Int32} {n n' : Nat} (h : R2 (f, g, n) (f', g', n')) : sumK g n = sumK g' n' := by
  rw [sumK_X2 f g, sumK_X2 f' g']
  exact sumX_eq Int64.add_comm Int64.add_assoc h
theorem R2_sumP {f g f' g' : Nat → Int32} {n n' : Nat} (h : R2 (f, g, n) (f', g', n')) : sumP f g n = sumP f' g' n' := by
  rw [sumP_X f g, sumP_X f' g']
  exact sumX_eq Int64.add_comm Int64.add_assoc h
theorem cntP_X {q : Nat → Bool} {Q : Int32 → Int32 → Bool} {f g : Nat → Int32} : ∀ {n : Nat}, (∀ i, i < n → q i = Q (f i) (g i)) → cntP q n = sumX (fun a b : Nat => a + b) 0 (fun k v => if Q k v then 1 else 0) f g n
  | 0, _ => rfl
  | n + 1, hq => by
    show _ = sumX _ _ _ f g n + (if Q (f n) (g n) then 1 else 0)
    rw [← cntP_X (fun i hi => hq i (Nat.lt_succ_of_lt hi)), ← hq n (Nat.lt_succ_self n)]
    show (if q n then cntP q n + 1 else cntP q n) = _
    by_cases hh : q n = true
    · rw [if_pos hh, if_pos hh]
    · rw [if_neg hh, if_neg hh]
      rfl
theorem R2_cnt {q q' : Nat → Bool} {Q : Int32 → Int32 → Bool} {f g f' g' : Nat → Int32} {n n' : Nat} (h : R2 (f, g, n) (f', g', n')) (h1 : ∀ i, i < n → q i = Q (f i) (g i)) (h2 : ∀ i, i < n' → q' i = Q (f' i) (g' i)) : cntP q n = cntP q' n' := by
  rw [cntP_X h1, cntP_X h2]
  exact sumX_eq Nat.add_comm Nat.add_assoc h
