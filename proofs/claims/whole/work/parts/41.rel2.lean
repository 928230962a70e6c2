/-! walks that take out, fills, marks -/
theorem dropW_Hs (p : Int32 → Int32 → Bool) : ∀ {i : Nat} {s : T2}, Inj s.1 s.2.2 → i ≤ s.2.2 → (∀ j, i ≤ j → j < s.2.2 → p (s.1 j) (s.2.1 j) = false) → Inj (dropW p i s).1 (dropW p i s).2.2 ∧ ∀ k v, Hs (dropW p i s) k v ↔ (p k v = false ∧ Hs s k v)
  | 0, s, hi, _, hp => ⟨hi, fun k v => ⟨fun h => ⟨by obtain ⟨j, h1, h2, h3⟩ := h; rw [← h2, ← h3]; exact hp j (Nat.zero_le _) h1, h⟩, And.right⟩⟩
  | i + 1, s, hi, hn, hp => by
    show Inj (dropW p i (if p (s.1 i) (s.2.1 i) then cut2 s i else s)).1 (dropW p i (if p (s.1 i) (s.2.1 i) then cut2 s i else s)).2.2 ∧ ∀ k v, Hs (dropW p i (if p (s.1 i) (s.2.1 i) then cut2 s i else s)) k v ↔ _
    by_cases hq : p (s.1 i) (s.2.1 i) = true
    · rw [if_pos hq]
      have ih := dropW_Hs p (i := i) (s := cut2 s i) (cut_Inj (show i < s.2.2 by omega) hi) (show i ≤ s.2.2 - 1 by omega) (fun j h1 h2 => by
        have h2 : j < s.2.2 - 1 := h2
        show p (cutF s.1 s.2.2 i j) (cutF s.2.1 s.2.2 i j) = false
        rw [cutF_e h2, cutF_e h2]
        unfold cutE
        rw [if_neg (by omega)]
        exact hp (j + 1) (by omega) (by omega))
      refine ⟨ih.1, fun k v => (ih.2 k v).trans (and_congr_right fun hpk => ?_)⟩
      refine (cut_Hs (f := s.1) (g := s.2.1) (show i < s.2.2 by omega) hi k v).trans ⟨And.right, fun h => ⟨fun e => ?_, h⟩⟩
      obtain ⟨j, h1, h2, h3⟩ := h
      have h1 : j < s.2.2 := h1
      have h2 : s.1 j = k := h2
      have h3 : s.2.1 j = v := h3
      have hj : j = i := hi j i h1 (by omega) (h2.trans e)
      subst hj
      rw [← h2, ← h3, hq] at hpk
      cases hpk
    · rw [if_neg hq]
      exact dropW_Hs p hi (by omega) (fun j h1 h2 => by
        rcases Nat.lt_or_ge i j with h | h
        · exact hp j h h2
        · have : j = i := by omega
          subst this
          exact Bool.eq_false_iff.mpr hq)
theorem dropM_Hs (p : Int32 → Int32 → Bool) : ∀ {i : Nat} {s : T2}, Inj s.1 s.2.2 → i ≤ s.2.2 → (∀ j, i ≤ j → j < s.2.2 → p (s.1 j) (s.2.1 j) = false) → Inj (dropM p i s).1 (dropM p i s).2.2 ∧ ∀ k v, Hs (dropM p i s) k v ↔ (p k v = false ∧ Hs s k v)
  | 0, s, hi, _, hp => ⟨hi, fun k v => ⟨fun h => ⟨by obtain ⟨j, h1, h2, h3⟩ := h; rw [← h2, ← h3]; exact hp j (Nat.zero_le _) h1, h⟩, And.right⟩⟩
  | i + 1, s, hi, hn, hp => by
    show Inj (dropM p i (if p (s.1 i) (s.2.1 i) then sw2 s i else s)).1 (dropM p i (if p (s.1 i) (s.2.1 i) then sw2 s i else s)).2.2 ∧ ∀ k v, Hs (dropM p i (if p (s.1 i) (s.2.1 i) then sw2 s i else s)) k v ↔ _
    by_cases hq : p (s.1 i) (s.2.1 i) = true
    · rw [if_pos hq]
      have ih := dropM_Hs p (i := i) (s := sw2 s i) (swp_Inj (show i < s.2.2 by omega) hi) (show i ≤ s.2.2 - 1 by omega) (fun j h1 h2 => by
        have h2 : j < s.2.2 - 1 := h2
        show p (swF s.1 s.2.2 i j) (swF s.2.1 s.2.2 i j) = false
        rw [swF_e, swF_e]
        unfold swE
        by_cases hj : j = i
        · rw [if_pos hj]
          exact hp (s.2.2 - 1) (by omega) (by omega)
        · rw [if_neg hj]
          exact hp j (by omega) (by omega))
      refine ⟨ih.1, fun k v => (ih.2 k v).trans (and_congr_right fun hpk => ?_)⟩
      refine (swp_Hs (f := s.1) (g := s.2.1) (show i < s.2.2 by omega) hi k v).trans ⟨And.right, fun h => ⟨fun e => ?_, h⟩⟩
      obtain ⟨j, h1, h2, h3⟩ := h
      have h1 : j < s.2.2 := h1
      have h2 : s.1 j = k := h2
      have h3 : s.2.1 j = v := h3
      have hj : j = i := hi j i h1 (by omega) (h2.trans e)
      subst hj
      rw [← h2, ← h3, hq] at hpk
      cases hpk
    · rw [if_neg hq]
      exact dropM_Hs p hi (by omega) (fun j h1 h2 => by
        rcases Nat.lt_or_ge i j with h | h
        · exact hp j h h2
        · have : j = i := by omega
          subst this
          exact Bool.eq_false_iff.mpr hq)
theorem R2_drop (p : Int32 → Int32 → Bool) {a b : T2} (h : R2 a b) : R2 (dropW p a.2.2 a) (dropM p b.2.2 b) := by
  have h1 := dropW_Hs p (i := a.2.2) (s := a) h.1 (Nat.le_refl _) (fun j q1 q2 => absurd q2 (by omega))
  have h2 := dropM_Hs p (i := b.2.2) (s := b) h.2.1 (Nat.le_refl _) (fun j q1 q2 => absurd q2 (by omega))
  exact ⟨h1.1, h2.1, fun k v => (h1.2 k v).trans ((and_congr Iff.rfl (h.2.2 k v)).trans (h2.2 k v).symm)⟩
theorem addF_Hs (f g : Nat → Int32) (n : Nat) (x k v : Int32) : Hs (f, addF g x n, n) k v ↔ ∃ v0, v0 + x = v ∧ Hs (f, g, n) k v0 := by
  constructor
  · rintro ⟨i, h1, h2, h3⟩
    have h1 : i < n := h1
    have h3 : addF g x n i = v := h3
    unfold addF at h3
    rw [if_pos h1] at h3
    exact ⟨g i, h3, i, h1, h2, rfl⟩
  · rintro ⟨v0, h3, i, h1, h2, h4⟩
    have h1 : i < n := h1
    have h4 : g i = v0 := h4
    refine ⟨i, h1, h2, ?_⟩
    show addF g x n i = v
    unfold addF
    rw [if_pos h1, h4]
    exact h3
theorem R2_add (x : Int32) {f g f' g' : Nat → Int32} {n n' : Nat} (h : R2 (f, g, n) (f', g', n')) : R2 (f, addF g x n, n) (f', addF g' x n', n') :=
  ⟨h.1, h.2.1, fun k v => (addF_Hs f g n x k v).trans (Iff.trans ⟨fun ⟨v0, q1, q2⟩ => ⟨v0, q1, (h.2.2 k v0).mp q2⟩, fun ⟨v0, q1, q2⟩ => ⟨v0, q1, (h.2.2 k v0).mpr q2⟩⟩ (addF_Hs f' g' n' x k v).symm)⟩
theorem Inj_0 (f : Nat → Int32) : Inj f 0 := fun _ _ ha => absurd ha (Nat.not_lt_zero _)
theorem R2_0 (f g f' g' : Nat → Int32) : R2 (f, g, 0) (f', g', 0) := ⟨Inj_0 _, Inj_0 _, fun k v => ⟨fun ⟨i, h, _⟩ => absurd h (Nat.not_lt_zero _), fun ⟨i, h, _⟩ => absurd h (Nat.not_lt_zero _)⟩⟩
theorem R2_insW (kf vf : Nat → Int32) {a b : T2} (h : R2 a b) : ∀ m, R2 (insW kf vf m a) (insWL kf vf m b)
  | 0 => h
  | m + 1 => R2_ins (vf m) (R2_insW kf vf h m) (Fnd_rF _ _ _) (Fnd_rL _ _ _)
/-! which keys are there -/
def Dm (f : Nat → Int32) (n : Nat) (k : Int32) : Prop := ∃ i, i < n ∧ f i = k
theorem Fnd_Dm {f : Nat → Int32} {n : Nat} {k : Int32} {o : Option Nat} (h : Fnd f n k o) : o.isSome = true ↔ Dm f n k := by
  cases o with
  | none => exact ⟨fun q => (by cases q), fun ⟨i, h1, h2⟩ => absurd h2 (h.2 rfl i h1)⟩
  | some j => exact ⟨fun _ => ⟨j, (h.1 j rfl).1, (h.1 j rfl).2⟩, fun _ => rfl⟩
theorem ins_Dm {f : Nat → Int32} {n : Nat} {k : Int32} {o : Option Nat} (ho : Fnd f n k o) (k' : Int32) : Dm (insF f n k o) (insN n o) k' ↔ k' = k ∨ Dm f n k' := by
  cases o with
  | some j =>
    obtain ⟨h1, h2⟩ := ho.1 j rfl
    exact ⟨Or.inr, fun q => q.elim (fun e => ⟨j, h1, h2.trans e.symm⟩) id⟩
  | none =>
    constructor
    · rintro ⟨i, h1, h2⟩
      have h1 : i < n + 1 := h1
      have h2 : upd f n k i = k' := h2
      unfold upd at h2
      by_cases e : i = n
      · rw [if_pos e] at h2
        exact Or.inl h2.symm
      · rw [if_neg e] at h2
        exact Or.inr ⟨i, by omega, h2⟩
    · rintro (rfl | ⟨i, h1, h2⟩)
      · exact ⟨n, Nat.lt_succ_self n, upd_at _ _ _⟩
      · refine ⟨i, Nat.lt_succ_of_lt h1, ?_⟩
        show upd f n k i = k'
        unfold upd
        rw [if_neg (by omega)]
        exact h2
theorem insWL_Dm (kf vf : Nat → Int32) (b : T2) (k : Int32) : ∀ m, Dm (insWL kf vf m b).1 (insWL kf vf m b).2.2 k ↔ (∃ j, j < m ∧ kf j = k) ∨ Dm b.1 b.2.2 k
  | 0 => ⟨Or.inr, fun q => q.elim (fun ⟨j, h, _⟩ => absurd h (Nat.not_lt_zero _)) id⟩
  | m + 1 => by
    refine (ins_Dm (Fnd_rL (insWL kf vf m b).1 (insWL kf vf m b).2.2 (kf m)) k).trans ?_
    rw [insWL_Dm kf vf b k m]
    constructor
    · rintro (rfl | ⟨j, h1, h2⟩ | h)
      · exact Or.inl ⟨m, Nat.lt_succ_self m, rfl⟩
      · exact Or.inl ⟨j, Nat.lt_succ_of_lt h1, h2⟩
      · exact Or.inr h
    · rintro (⟨j, h1, h2⟩ | h)
      · rcases Nat.lt_or_ge j m with q | q
        · exact Or.inr (Or.inl ⟨j, q, h2⟩)
        · have : j = m := by omega
          subst this
          exact Or.inl h2.symm
      · exact Or.inr (Or.inr h)
theorem isN_iff {f : Nat → Int32} {n : Nat} {kf : Nat → Int32} {k : Nat} : ∀ {i : Nat}, isN f n kf k i = true ↔ ¬ Dm f n (kf k) ∧ ∀ t, t < i → kf t ≠ kf k
  | 0 => by
    unfold isN
    rw [Bool.not_eq_true', ← Bool.not_eq_true, Fnd_Dm (Fnd_rL f n (kf k))]
    exact ⟨fun h => ⟨h, fun t ht => absurd ht (Nat.not_lt_zero _)⟩, And.left⟩
  | i + 1 => by
    unfold isN
    rw [Bool.and_eq_true, isN_iff (i := i), decide_eq_true_eq]
    constructor
    · rintro ⟨⟨h1, h2⟩, h3⟩
      refine ⟨h1, fun t ht => ?_⟩
      rcases Nat.lt_or_ge t i with q | q
      · exact h2 t q
      · have : t = i := by omega
        subst this
        exact h3
    · rintro ⟨h1, h2⟩
      exact ⟨⟨h1, fun t ht => h2 t (Nat.lt_succ_of_lt ht)⟩, h2 i (Nat.lt_succ_self i)⟩
theorem insWL_n (kf vf : Nat → Int32) (b : T2) : ∀ m, (insWL kf vf m b).2.2 = b.2.2 + lackN b.1 b.2.2 kf m
  | 0 => rfl
  | m + 1 => by
    show insN (insWL kf vf m b).2.2 (rL (insWL kf vf m b).1 (kf m) (insWL kf vf m b).2.2) = _
    have hd := (Fnd_Dm (Fnd_rL (insWL kf vf m b).1 (insWL kf vf m b).2.2 (kf m))).trans (insWL_Dm kf vf b (kf m) m)
    have ih := insWL_n kf vf b m
    unfold lackN at ih ⊢
    cases ho : rL (insWL kf vf m b).1 (kf m) (insWL kf vf m b).2.2 with
    | none =>
      rw [ho] at hd
      have hn : isN b.1 b.2.2 kf m m = true := isN_iff.mpr ⟨fun q => (by have q2 := hd.mpr (Or.inr q); cases q2), fun t ht e => (by have q2 := hd.mpr (Or.inl ⟨t, ht, e⟩); cases q2)⟩
      rw [cntP_t (q := fun k => isN b.1 b.2.2 kf k k) hn]
      show (insWL kf vf m b).2.2 + 1 = _
      omega
    | some j =>
      rw [ho] at hd
      have hn : isN b.1 b.2.2 kf m m = false := by
        rw [← Bool.not_eq_true, isN_iff]
        rintro ⟨h1, h2⟩
        rcases hd.mp rfl with ⟨t, ht, e⟩ | q
        · exact h2 t ht e
        · exact h1 q
      rw [cntP_f (q := fun k => isN b.1 b.2.2 kf k k) hn]
      exact ih
theorem cntP_congr {q q' : Nat → Bool} : ∀ {n : Nat}, (∀ i, i < n → q i = q' i) → cntP q n = cntP q' n
  | 0, _ => rfl
  | n + 1, h => by
    show (if q n then cntP q n + 1 else cntP q n) = (if q' n then cntP q' n + 1 else cntP q' n)
    rw [cntP_congr (fun i hi => h i (Nat.lt_succ_of_lt hi)), h n (Nat.lt_succ_self n)]
theorem cntP_stop {q : Nat → Bool} {d : Nat} : ∀ {n : Nat}, d ≤ n → (∀ i, d ≤ i → i < n → q i = false) → cntP q n = cntP q d
  | 0, hd, _ => by
    have : d = 0 := by omega
    subst this
    rfl
  | n + 1, hd, h => by
    rcases Nat.lt_or_ge n d with h1 | h1
    · have : d = n + 1 := by omega
      subst this
      rfl
    · rw [cntP_f (h n h1 (Nat.lt_succ_self n))]
      exact cntP_stop h1 (fun i h2 h3 => h i h2 (Nat.lt_succ_of_lt h3))
/-! the keys of a fill -/
theorem rF_first {f : Nat → Int32} {v : Int32} : ∀ {n j : Nat}, rF f v n = some j → ∀ i, i < j → f i ≠ v
  | 0, j, h, _, _ => by simp [rF] at h
  | n + 1, j, h, i, hi => by
    unfold rF at h
    cases hq : rF f v n with
    | some k =>
      rw [hq] at h
      cases h
      exact rF_first hq i hi
    | none =>
      rw [hq] at h
      by_cases e : f n = v
      · simp only [e, if_true] at h
        cases h
        exact rF_none hq i hi
      · simp only [e, if_false] at h
        cases h
theorem dK_min {step : Int32} {many t : Nat} (h1 : 1 ≤ t) (h2 : t < dK step many) : ¬ nI t * step = 0 := by
  unfold dK at h2
  obtain ⟨u, rfl⟩ : ∃ u, t = u + 1 := ⟨t - 1, by omega⟩
  cases hq : rF (fun i => nI (i + 1) * step) 0 (many - 1) with
  | none =>
    rw [hq] at h2
    have h2 : u + 1 < many := h2
    exact rF_none hq u (by omega)
  | some j =>
    rw [hq] at h2
    have h2 : u + 1 < j + 1 := h2
    exact rF_first hq u (by omega)
theorem dK_zero {step : Int32} {many : Nat} (h : dK step many < many) : nI (dK step many) * step = 0 ∧ 1 ≤ dK step many := by
  unfold dK at h ⊢
  cases hq : rF (fun i => nI (i + 1) * step) 0 (many - 1) with
  | none =>
    rw [hq] at h
    exact absurd h (Nat.lt_irrefl _)
  | some j => exact ⟨(rF_some hq).2, Nat.succ_le_succ (Nat.zero_le _)⟩
theorem fillK_eq {fs step : Int32} {i k : Nat} (h : i ≤ k) : fillK fs step i = fillK fs step k ↔ nI (k - i) * step = 0 := by
  unfold fillK
  rw [Int32.add_right_inj]
  have e : nI k = nI i + nI (k - i) := by
    rw [nI_add]
    exact congrArg nI (by omega)
  rw [e, Int32.add_mul]
  constructor
  · intro q
    have q2 : nI i * step + 0 = nI i * step + nI (k - i) * step := by rw [Int32.add_zero]; exact q
    exact ((Int32.add_right_inj _).mp q2).symm
  · intro q
    rw [q, Int32.add_zero]
theorem nkF_lack {f g f' g' : Nat → Int32} {n n' : Nat} (h : R2 (f, g, n) (f', g', n')) (fs step : Int32) (many : Nat) : nkF f n fs step many = lackN f' n' (fillK fs step) many := by
  unfold nkF lackN
  rw [cntP_stop (q := fun k => isN f' n' (fillK fs step) k k) (dK_le step many)]
  · refine cntP_congr (fun k hk => ?_)
    have e : (rF f (fillK fs step k) n).isSome = (rL f' (fillK fs step k) n').isSome := isS_map (R2_map h (Fnd_rF _ _ _) (Fnd_rL _ _ _))
    have hd := Fnd_Dm (Fnd_rL f' n' (fillK fs step k))
    unfold qNew
    rw [e]
    cases hs : (rL f' (fillK fs step k) n').isSome with
    | true =>
      rw [hs] at hd
      symm
      show isN f' n' (fillK fs step) k k = false
      rw [← Bool.not_eq_true, isN_iff]
      exact fun q => q.1 (hd.mp rfl)
    | false =>
      rw [hs] at hd
      symm
      show isN f' n' (fillK fs step) k k = true
      refine isN_iff.mpr ⟨fun q => (by have q2 := hd.mpr q; cases q2), fun t ht e2 => ?_⟩
      exact dK_min (step := step) (many := many) (t := k - t) (by omega) (by omega) ((fillK_eq (Nat.le_of_lt ht)).mp e2)
  · intro k h1 h2
    obtain ⟨hz, hp⟩ := dK_zero (step := step) (many := many) (by omega)
    show isN f' n' (fillK fs step) k k = false
    rw [← Bool.not_eq_true, isN_iff]
    rintro ⟨-, h3⟩
    refine h3 (k - dK step many) (by omega) ((fillK_eq (by omega)).mpr ?_)
    rw [show k - (k - dK step many) = dK step many by omega]
    exact hz
theorem fill_n {f g f' g' : Nat → Int32} {n n' : Nat} (h : R2 (f, g, n) (f', g', n')) (fs step : Int32) (many : Nat) (vf : Nat → Int32) :
    (insW (fillK fs step) vf many (f, g, n)).2.2 = n + nkF f n fs step many ∧ (insWL (fillK fs step) vf many (f', g', n')).2.2 = n + nkF f n fs step many := by
  have h1 := R2_n (R2_insW (fillK fs step) vf h many)
  have h2 := insWL_n (fillK fs step) vf (f', g', n') many
  have h3 := R2_n h
  have h4 := nkF_lack h fs step many
  have h5 : (insWL (fillK fs step) vf many (f', g', n')).2.2 = n + nkF f n fs step many := by
    rw [h2, h4, h3]
  exact ⟨h1.trans h5, h5⟩
/-! the shelf's pairs into the table -/
theorem insW_Hs (kf vf : Nat → Int32) (a : T2) (hi : Inj a.1 a.2.2) : ∀ m, Inj kf m → Inj (insW kf vf m a).1 (insW kf vf m a).2.2 ∧ ∀ k v, Hs (insW kf vf m a) k v ↔ (Hs (kf, vf, m) k v ∨ (¬ Dm kf m k ∧ Hs a k v))
  | 0, _ => ⟨hi, fun k v => ⟨fun h => Or.inr ⟨fun ⟨i, q, _⟩ => absurd q (Nat.not_lt_zero _), h⟩, fun h => h.elim (fun ⟨i, q, _⟩ => absurd q (Nat.not_lt_zero _)) And.right⟩⟩
  | m + 1, hk => by
    obtain ⟨ih1, ih2⟩ := insW_Hs kf vf a hi m (fun x y hx hy => hk x y (Nat.lt_succ_of_lt hx) (Nat.lt_succ_of_lt hy))
    refine ⟨ins_Inj ih1 (Fnd_rF _ _ _), fun k v => (ins_Hs ih1 (Fnd_rF _ _ _) k v).trans ?_⟩
    constructor
    · rintro (⟨rfl, rfl⟩ | ⟨h1, h2⟩)
      · exact Or.inl ⟨m, Nat.lt_succ_self m, rfl, rfl⟩
      · rcases (ih2 k v).mp h2 with ⟨i, q1, q2, q3⟩ | ⟨q1, q2⟩
        · exact Or.inl ⟨i, Nat.lt_succ_of_lt q1, q2, q3⟩
        · refine Or.inr ⟨fun ⟨i, q3, q4⟩ => ?_, q2⟩
          rcases Nat.lt_or_ge i m with q | q
          · exact q1 ⟨i, q, q4⟩
          · have : i = m := by omega
            subst this
            exact h1 q4.symm
    · rintro (⟨i, q1, q2, q3⟩ | ⟨q1, q2⟩)
      · have q1 : i < m + 1 := q1
        have q2 : kf i = k := q2
        have q3 : vf i = v := q3
        rcases Nat.lt_or_ge i m with q | q
        · refine Or.inr ⟨fun e => ?_, (ih2 k v).mpr (Or.inl ⟨i, q, q2, q3⟩)⟩
          have := hk i m (by omega) (by omega) (q2.trans e)
          omega
        · have : i = m := by omega
          subst this
          exact Or.inl ⟨q2.symm, q3.symm⟩
      · exact Or.inr ⟨fun e => q1 ⟨m, Nat.lt_succ_self m, e.symm⟩, (ih2 k v).mpr (Or.inr ⟨fun ⟨i, q3, q4⟩ => q1 ⟨i, Nat.lt_succ_of_lt q3, q4⟩, q2⟩)⟩
theorem insWL_Hs (kf vf : Nat → Int32) (a : T2) (hi : Inj a.1 a.2.2) : ∀ m, Inj kf m → Inj (insWL kf vf m a).1 (insWL kf vf m a).2.2 ∧ ∀ k v, Hs (insWL kf vf m a) k v ↔ (Hs (kf, vf, m) k v ∨ (¬ Dm kf m k ∧ Hs a k v))
  | 0, _ => ⟨hi, fun k v => ⟨fun h => Or.inr ⟨fun ⟨i, q, _⟩ => absurd q (Nat.not_lt_zero _), h⟩, fun h => h.elim (fun ⟨i, q, _⟩ => absurd q (Nat.not_lt_zero _)) And.right⟩⟩
  | m + 1, hk => by
    obtain ⟨ih1, ih2⟩ := insWL_Hs kf vf a hi m (fun x y hx hy => hk x y (Nat.lt_succ_of_lt hx) (Nat.lt_succ_of_lt hy))
    refine ⟨ins_Inj ih1 (Fnd_rL _ _ _), fun k v => (ins_Hs ih1 (Fnd_rL _ _ _) k v).trans ?_⟩
    constructor
    · rintro (⟨rfl, rfl⟩ | ⟨h1, h2⟩)
      · exact Or.inl ⟨m, Nat.lt_succ_self m, rfl, rfl⟩
      · rcases (ih2 k v).mp h2 with ⟨i, q1, q2, q3⟩ | ⟨q1, q2⟩
        · exact Or.inl ⟨i, Nat.lt_succ_of_lt q1, q2, q3⟩
        · refine Or.inr ⟨fun ⟨i, q3, q4⟩ => ?_, q2⟩
          rcases Nat.lt_or_ge i m with q | q
          · exact q1 ⟨i, q, q4⟩
          · have : i = m := by omega
            subst this
            exact h1 q4.symm
    · rintro (⟨i, q1, q2, q3⟩ | ⟨q1, q2⟩)
      · have q1 : i < m + 1 := q1
        have q2 : kf i = k := q2
        have q3 : vf i = v := q3
        rcases Nat.lt_or_ge i m with q | q
        · refine Or.inr ⟨fun e => ?_, (ih2 k v).mpr (Or.inl ⟨i, q, q2, q3⟩)⟩
          have := hk i m (by omega) (by omega) (q2.trans e)
          omega
        · have : i = m := by omega
          subst this
          exact Or.inl ⟨q2.symm, q3.symm⟩
      · exact Or.inr ⟨fun e => q1 ⟨m, Nat.lt_succ_self m, e.symm⟩, (ih2 k v).mpr (Or.inr ⟨fun ⟨i, q3, q4⟩ => q1 ⟨i, Nat.lt_succ_of_lt q3, q4⟩, q2⟩)⟩
theorem R2_Dm {f g f' g' : Nat → Int32} {n n' : Nat} (h : R2 (f, g, n) (f', g', n')) (k : Int32) : Dm f n k ↔ Dm f' n' k :=
  ⟨fun ⟨i, h1, h2⟩ => by obtain ⟨j, q1, q2, -⟩ := (h.2.2 k (g i)).mp ⟨i, h1, h2, rfl⟩; exact ⟨j, q1, q2⟩, fun ⟨i, h1, h2⟩ => by obtain ⟨j, q1, q2, -⟩ := (h.2.2 k (g' i)).mpr ⟨i, h1, h2, rfl⟩; exact ⟨j, q1, q2⟩⟩
theorem R2_shelf {a b : T2} {fs gs fs' gs' : Nat → Int32} {ns ns' : Nat} (h : R2 a b) (hs : R2 (fs, gs, ns) (fs', gs', ns')) : R2 (insW fs gs ns a) (insWL fs' gs' ns' b) := by
  have h1 := insW_Hs fs gs a h.1 ns hs.1
  have h2 := insWL_Hs fs' gs' b h.2.1 ns' hs.2.1
  exact ⟨h1.1, h2.1, fun k v => (h1.2 k v).trans (Iff.trans (or_congr (hs.2.2 k v) (and_congr (not_congr (R2_Dm hs k)) (h.2.2 k v))) (h2.2 k v).symm)⟩
theorem shelf_cnt {f g f' g' fs gs fs' gs' : Nat → Int32} {n n' ns ns' : Nat} (h : R2 (f, g, n) (f', g', n')) (hs : R2 (fs, gs, ns) (fs', gs', ns')) : cntP (qNew f n fs) ns = cntP (qL f' n' fs') ns' :=
  R2_cnt (Q := fun k _ => !(rF f k n).isSome) hs (fun i _ => rfl) (fun i _ => by
    show (!(rL f' (fs' i) n').isSome) = !(rF f (fs' i) n).isSome
    rw [isS_map (R2_map h (Fnd_rF _ _ _) (Fnd_rL _ _ _))])
theorem shelf_n {f g f' g' fs gs fs' gs' : Nat → Int32} {n n' ns ns' : Nat} (h : R2 (f, g, n) (f', g', n')) (hs : R2 (fs, gs, ns) (fs', gs', ns')) :
    (insW fs gs ns (f, g, n)).2.2 = n + cntP (qNew f n fs) ns ∧ (insWL fs' gs' ns' (f', g', n')).2.2 = n + cntP (qNew f n fs) ns := by
  have h1 := R2_n (R2_shelf h hs)
  have h2 := insWL_n fs' gs' (f', g', n') ns'
  have h3 : n = n' := R2_n h
  have h4 : lackN f' n' fs' ns' = cntP (qL f' n' fs') ns' := by
    refine cntP_congr (fun k hk => ?_)
    have hd := Fnd_Dm (Fnd_rL f' n' (fs' k))
    unfold qL
    cases hq : (rL f' (fs' k) n').isSome with
    | true =>
      rw [hq] at hd
      show isN f' n' fs' k k = false
      rw [← Bool.not_eq_true, isN_iff]
      exact fun q => q.1 (hd.mp rfl)
    | false =>
      rw [hq] at hd
      show isN f' n' fs' k k = true
      refine isN_iff.mpr ⟨fun q => (by have q2 := hd.mpr q; cases q2), fun t ht e2 => ?_⟩
      have := hs.2.1 t k (Nat.lt_trans ht hk) hk e2
      omega
  have h5 : (insWL fs' gs' ns' (f', g', n')).2.2 = n + cntP (qNew f n fs) ns := by
    rw [h2]
    show n' + lackN f' n' fs' ns' = _
    rw [h4, ← shelf_cnt h hs, h3]
  exact ⟨h1.trans h5, h5⟩
