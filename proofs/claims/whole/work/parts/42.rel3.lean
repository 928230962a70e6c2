/-! the two sides' acts of the table, of the words and of the marks -/
theorem R2_congr {a : T2} {f g f2 g2 : Nat → Int32} {n : Nat} (h : R2 a (f, g, n)) (e : ∀ i, i < n → f2 i = f i ∧ g2 i = g i) : R2 a (f2, g2, n) := by
  refine ⟨h.1, fun x y hx hy q => ?_, fun k v => (h.2.2 k v).trans ⟨fun ⟨i, h1, h2, h3⟩ => ⟨i, h1, (e i h1).1.trans h2, (e i h1).2.trans h3⟩, fun ⟨i, h1, h2, h3⟩ => ⟨i, h1, (e i h1).1.symm.trans h2, (e i h1).2.symm.trans h3⟩⟩⟩
  have q : f2 x = f2 y := q
  rw [(e x hx).1, (e y hy).1] at q
  exact h.2.1 x y hx hy q
section R2acts
variable {f g f' g' : Nat → Int32} {n n' : Nat}
theorem R2_some (h : R2 (f, g, n) (f', g', n')) (k : Int32) : (rF f k n).isSome = (rL f' k n').isSome := isS_map (R2_map h (Fnd_rF f n k) (Fnd_rL f' n' k))
theorem R2_oN (h : R2 (f, g, n) (f', g', n')) (k : Int32) : oN g (rF f k n) = oN g' (rL f' k n') := oN_map (R2_map h (Fnd_rF f n k) (Fnd_rL f' n' k))
theorem R2_orO (h : R2 (f, g, n) (f', g', n')) (k x : Int32) : orO g x (rF f k n) = orO g' x (rL f' k n') := orO_map x (R2_map h (Fnd_rF f n k) (Fnd_rL f' n' k))
theorem R2_full (h : R2 (f, g, n) (f', g', n')) (k : Int32) (hn : n ≤ 200) : (fullB (rL f' k n') n' = true ∧ rF f k n = none ∧ n = 200) ∨ (fullB (rL f' k n') n' = false ∧ (rF f k n = none → n < 200)) := by
  have e := R2_some h k
  have hh := R2_n h
  unfold fullB
  rw [← e, ← hh]
  cases rF f k n with
  | none =>
    by_cases q : n = 200
    · exact Or.inl ⟨by rw [decide_eq_true q]; rfl, rfl, q⟩
    · exact Or.inr ⟨by rw [decide_eq_false q]; rfl, fun _ => by omega⟩
  | some j => exact Or.inr ⟨rfl, fun q => (by cases q)⟩
theorem R2_mrg (h : R2 (f, g, n) (f', g', n')) (k v : Int32) : R2 (mrgF f n k g v (rF f k n), mrgG g n v (rF f k n), mrgN n g v (rF f k n)) (mgF f' n' k g' v (rL f' k n'), mgG g' n' v (rL f' k n'), mgN n' g' v (rL f' k n')) ∧ mrgA g v (rF f k n) = mrgA g' v (rL f' k n') := by
  have ho := Fnd_rF f n k
  have ho' := Fnd_rL f' n' k
  generalize rF f k n = o at ho ⊢
  generalize rL f' k n' = o' at ho' ⊢
  rcases o_both (R2_map h ho ho') with ⟨rfl, rfl⟩ | ⟨i, j, rfl, rfl, e⟩
  · exact ⟨R2_ins v h ho ho', rfl⟩
  · obtain ⟨h1, h2⟩ := ho.1 i rfl
    obtain ⟨h3, h4⟩ := ho'.1 j rfl
    have e : g i = g' j := e
    unfold mrgF mrgG mrgN mgF mgG mgN mrgA
    dsimp only
    rw [e]
    by_cases q : g' j + v = 0
    · simp only [if_pos (decide_eq_true q)]
      refine ⟨R2_congr (R2_rem h h1 h3 (h2.trans h4.symm)) (fun t ht => ⟨rfl, ?_⟩), trivial⟩
      show upd (upd g' j (g' j + v)) j (upd g' j (g' j + v) (n' - 1)) t = upd g' j (g' (n' - 1)) t
      by_cases et : t = j
      · rw [et, upd_at, upd_at]
        exact if_neg (by omega)
      · unfold upd
        simp only [et, if_false]
    · simp only [if_neg (by rw [decide_eq_false q]; exact Bool.false_ne_true : ¬ decide (g' j + v = 0) = true)]
      refine ⟨?_, trivial⟩
      rw [← e]
      exact e ▸ R2_ins (g i + v) h ho ho'
theorem R2_cpa (h : R2 (f, g, n) (f', g', n')) (k : Int32) : R2 (cpaF f n k (rF f k n), cpaG g n k (rF f k n), cpaN n k (rF f k n)) (cpaF f' n' k (rL f' k n'), cpaG g' n' k (rL f' k n'), cpaN n' k (rL f' k n')) ∧ cpaA g k (rF f k n) = cpaA g' k (rL f' k n') := by
  have ho := Fnd_rF f n k
  have ho' := Fnd_rL f' n' k
  generalize rF f k n = o at ho ⊢
  generalize rL f' k n' = o' at ho' ⊢
  rcases o_both (R2_map h ho ho') with ⟨rfl, rfl⟩ | ⟨i, j, rfl, rfl, e⟩
  · unfold cpaF cpaG cpaN cpaA
    dsimp only
    by_cases q : k - k / 7 * 7 = 0
    · simp only [if_pos q]
      exact ⟨h, trivial⟩
    · simp only [if_neg q]
      exact ⟨R2_ins (3 * k + 1) h ho ho', trivial⟩
  · exact ⟨h, congrArg Int32.toInt64 e⟩
theorem R2_cpp (h : R2 (f, g, n) (f', g', n')) (k v : Int32) : R2 (cppF f n g v (rF f k n), cppG g n v (rF f k n), cppN n g v (rF f k n)) (mpF f' n' g' v (rL f' k n'), mpG g' n' v (rL f' k n'), cppN n' g' v (rL f' k n')) ∧ cppA g v (rF f k n) = cppA g' v (rL f' k n') := by
  have ho := Fnd_rF f n k
  have ho' := Fnd_rL f' n' k
  generalize rF f k n = o at ho ⊢
  generalize rL f' k n' = o' at ho' ⊢
  rcases o_both (R2_map h ho ho') with ⟨rfl, rfl⟩ | ⟨i, j, rfl, rfl, e⟩
  · exact ⟨h, rfl⟩
  · obtain ⟨h1, h2⟩ := ho.1 i rfl
    obtain ⟨h3, h4⟩ := ho'.1 j rfl
    have e : g i = g' j := e
    unfold cppF cppG cppN mpF mpG cppA
    dsimp only
    rw [e]
    by_cases q : 2 * g' j - v - (2 * g' j - v) / 10 * 10 = 0
    · simp only [if_pos (decide_eq_true q)]
      exact ⟨R2_rem h h1 h3 (h2.trans h4.symm), trivial⟩
    · simp only [if_neg (by rw [decide_eq_false q]; exact Bool.false_ne_true : ¬ decide (2 * g' j - v - (2 * g' j - v) / 10 * 10 = 0) = true)]
      exact ⟨R2_ins (2 * g' j - v) h ho ho', trivial⟩
theorem R2_told (h : R2 (f, g, n) (f', g', n')) (k t v : Int32) : R2 (f, if (decide (oN g (rF f k n) = t.toInt64)) then setO g v (rF f k n) else g, n) (f', if (decide (oN g' (rL f' k n') = t.toInt64)) then setO g' v (rL f' k n') else g', n') := by
  rw [R2_oN h k]
  by_cases q : decide (oN g' (rL f' k n') = t.toInt64) = true
  · rw [if_pos q, if_pos q]
    exact R2_set v h (Fnd_rF f n k) (Fnd_rL f' n' k)
  · rw [if_neg q, if_neg q]
    exact h
theorem R2_untold (h : R2 (f, g, n) (f', g', n')) (k t : Int32) : R2 (if (decide (oN g (rF f k n) = t.toInt64)) then delF f n (rF f k n) else f, if (decide (oN g (rF f k n) = t.toInt64)) then delF g n (rF f k n) else g, if (decide (oN g (rF f k n) = t.toInt64)) then delN n (rF f k n) else n) (if (decide (oN g' (rL f' k n') = t.toInt64)) then swO f' n' (rL f' k n') else f', if (decide (oN g' (rL f' k n') = t.toInt64)) then swO g' n' (rL f' k n') else g', if (decide (oN g' (rL f' k n') = t.toInt64)) then delN n' (rL f' k n') else n') := by
  rw [R2_oN h k]
  by_cases q : decide (oN g' (rL f' k n') = t.toInt64) = true
  · rw [if_pos q, if_pos q, if_pos q, if_pos q, if_pos q, if_pos q]
    exact R2_del h (Fnd_rF f n k) (Fnd_rL f' n' k)
  · rw [if_neg q, if_neg q, if_neg q, if_neg q, if_neg q, if_neg q]
    exact h
theorem R2_val (h : R2 (f, g, n) (f', g', n')) (v : Int32) : (rF g v n).isSome = (rL g' v n').isSome := by
  rw [Bool.eq_iff_iff, Fnd_Dm (Fnd_rF g n v), Fnd_Dm (Fnd_rL g' n' v)]
  exact ⟨fun ⟨i, h1, h2⟩ => (by obtain ⟨j, q1, -, q3⟩ := (h.2.2 (f i) v).mp ⟨i, h1, rfl, h2⟩; exact ⟨j, q1, q3⟩), fun ⟨i, h1, h2⟩ => (by obtain ⟨j, q1, -, q3⟩ := (h.2.2 (f' i) v).mpr ⟨i, h1, rfl, h2⟩; exact ⟨j, q1, q3⟩)⟩
theorem insN_200 {k : Int32} (hn : n ≤ 200) (hf : rF f k n = none → n < 200) : insN n (rF f k n) ≤ 200 := by
  cases ho : rF f k n with
  | none => exact hf ho
  | some j => exact hn
theorem mrgN_200 {k v : Int32} (hn : n ≤ 200) (hf : rF f k n = none → n < 200) : mrgN n g v (rF f k n) ≤ 200 := by
  cases ho : rF f k n with
  | none => exact hf ho
  | some j =>
    unfold mrgN
    dsimp only
    split <;> omega
theorem cpaN_200 {k : Int32} (hn : n ≤ 200) (hf : rF f k n = none → n < 200) : cpaN n k (rF f k n) ≤ 200 := by
  cases ho : rF f k n with
  | none =>
    have := hf ho
    unfold cpaN
    dsimp only
    split <;> omega
  | some j => exact hn
theorem cppN_200 {v : Int32} {o : Option Nat} (hn : n ≤ 200) : cppN n g v o ≤ 200 := by
  cases o with
  | none => exact hn
  | some j =>
    unfold cppN
    dsimp only
    split <;> omega
theorem delN_200 {o : Option Nat} (hn : n ≤ 200) : delN n o ≤ 200 := Nat.le_trans (delN_le n o) hn
theorem delI_200 {o : Option Nat} {b : Bool} (hn : n ≤ 200) : (if b then delN n o else n) ≤ 200 := by
  cases b
  · exact hn
  · exact delN_200 hn
end R2acts
theorem dropW_n (p : Int32 → Int32 → Bool) : ∀ (i : Nat) (s : T2), (dropW p i s).2.2 ≤ s.2.2
  | 0, s => Nat.le_refl _
  | i + 1, s => by
    show (dropW p i (if p (s.1 i) (s.2.1 i) then cut2 s i else s)).2.2 ≤ s.2.2
    refine Nat.le_trans (dropW_n p i _) ?_
    split
    · exact Nat.sub_le _ _
    · exact Nat.le_refl _
/-! the best of the words -/
theorem cb_iff {f g : Nat → Int32} {a b : Nat} : cb f g a b = true ↔ (g b).toInt < (g a).toInt ∨ ((g a).toInt = (g b).toInt ∧ (f a).toInt < (f b).toInt) := by
  unfold cb
  rw [Bool.or_eq_true, Bool.and_eq_true, decide_eq_true_eq, decide_eq_true_eq, decide_eq_true_eq, Int32.lt_iff_toInt_lt, Int32.lt_iff_toInt_lt, Int32.toInt_inj]
theorem cb_iffF {f g : Nat → Int32} {a b : Nat} : cb f g a b = false ↔ ¬ ((g b).toInt < (g a).toInt ∨ ((g a).toInt = (g b).toInt ∧ (f a).toInt < (f b).toInt)) := by
  rw [← cb_iff, Bool.not_eq_true]
theorem bW_best (f g : Nat → Int32) : ∀ n i, i < n → cb f g i (bW f g n) = false
  | 0, i, h => absurd h (Nat.not_lt_zero _)
  | n + 1, i, h => by
    cases hc : cb f g n (bW f g n) with
    | true =>
      rw [bW_t hc]
      rcases Nat.lt_or_ge i n with q | q
      · have ih := bW_best f g n i q
        rw [cb_iffF] at ih ⊢
        rw [cb_iff] at hc
        omega
      · have : i = n := by omega
        subst this
        rw [cb_iffF]
        omega
    | false =>
      rw [bW_f hc]
      rcases Nat.lt_or_ge i n with q | q
      · exact bW_best f g n i q
      · have : i = n := by omega
        subst this
        exact hc
theorem R2_best {f g f' g' : Nat → Int32} {n n' : Nat} (h : R2 (f, g, n) (f', g', n')) (hn : 0 < n) : f (bW f g n) = f' (bW f' g' n') := by
  have hh : n = n' := R2_n h
  have a1 := bW_lt f g n hn
  have a2 := bW_lt f' g' n' (by omega)
  obtain ⟨j, q1, q2, q3⟩ := (h.2.2 (f (bW f g n)) (g (bW f g n))).mp ⟨_, a1, rfl, rfl⟩
  obtain ⟨i, q4, q5, q6⟩ := (h.2.2 (f' (bW f' g' n')) (g' (bW f' g' n'))).mpr ⟨_, a2, rfl, rfl⟩
  have b1 := bW_best f' g' n' j q1
  have b2 := bW_best f g n i q4
  rw [cb_iffF] at b1 b2
  dsimp only at q2 q3 q5 q6
  rw [q2, q3] at b1
  rw [q5, q6] at b2
  exact Int32.toInt_inj.mp (by omega)
/-! marks: rows whose values are all 0 -/
def mC0 : Nat → Int32 := fun _ => 0
def RM (f : Nat → Int32) (n : Nat) (f' : Nat → Int32) (n' : Nat) : Prop := R2 (f, mC0, n) (f', mC0, n')
theorem upd_c0 (j : Nat) : upd mC0 j 0 = mC0 := by
  funext t
  unfold upd mC0
  split <;> rfl
theorem cut_c0 (n j : Nat) : cutF mC0 n j = mC0 := by
  funext t
  unfold cutF va_cpy mC0
  split <;> rfl
theorem sw_c0 (n j : Nat) : swF mC0 n j = mC0 := upd_c0 j
theorem insG_c0 (n : Nat) (o : Option Nat) : insG mC0 n 0 o = mC0 := by cases o <;> exact upd_c0 _
theorem delF_c0 (n : Nat) (o : Option Nat) : delF mC0 n o = mC0 := by
  cases o
  · rfl
  · exact cut_c0 _ _
theorem swO_c0 (n : Nat) (o : Option Nat) : swO mC0 n o = mC0 := by
  cases o
  · rfl
  · exact sw_c0 _ _
theorem RM_n {f f' : Nat → Int32} {n n' : Nat} (h : RM f n f' n') : n = n' := R2_n h
theorem RM_ins {f f' : Nat → Int32} {n n' : Nat} {k : Int32} {o o' : Option Nat} (h : RM f n f' n') (ho : Fnd f n k o) (ho' : Fnd f' n' k o') : RM (insF f n k o) (insN n o) (insF f' n' k o') (insN n' o') := by
  have q := R2_ins 0 h ho ho'
  rw [insG_c0, insG_c0] at q
  exact q
theorem RM_del {f f' : Nat → Int32} {n n' : Nat} {k : Int32} {o o' : Option Nat} (h : RM f n f' n') (ho : Fnd f n k o) (ho' : Fnd f' n' k o') : RM (delF f n o) (delN n o) (swO f' n' o') (delN n' o') := by
  have q := R2_del h ho ho'
  rw [delF_c0, swO_c0] at q
  exact q
theorem R2_keys {f g f' g' : Nat → Int32} {n n' : Nat} (h : R2 (f, g, n) (f', g', n')) : RM f n f' n' :=
  ⟨h.1, h.2.1, fun k v => ⟨fun ⟨i, h1, h2, h3⟩ => (by obtain ⟨j, q1, q2⟩ := (R2_Dm h k).mp ⟨i, h1, h2⟩; exact ⟨j, q1, q2, h3⟩), fun ⟨i, h1, h2, h3⟩ => (by obtain ⟨j, q1, q2⟩ := (R2_Dm h k).mpr ⟨i, h1, h2⟩; exact ⟨j, q1, q2, h3⟩)⟩⟩
theorem mkW_c0 (kf : Nat → Int32) (s : T1) : ∀ i, insW kf mC0 i (s.1, mC0, s.2) = ((mkW kf i s).1, mC0, (mkW kf i s).2)
  | 0 => rfl
  | i + 1 => by
    show ins2 (insW kf mC0 i (s.1, mC0, s.2)) (kf i) 0 = ((ins1 (mkW kf i s) (kf i)).1, mC0, (ins1 (mkW kf i s) (kf i)).2)
    rw [mkW_c0 kf s i]
    show (insF (mkW kf i s).1 (mkW kf i s).2 (kf i) _, insG mC0 (mkW kf i s).2 0 _, insN (mkW kf i s).2 _) = _
    rw [insG_c0]
    unfold ins1
    cases rF (mkW kf i s).1 (kf i) (mkW kf i s).2 <;> rfl
theorem mkWL_c0 (kf : Nat → Int32) (s : T1) : ∀ i, insWL kf mC0 i (s.1, mC0, s.2) = ((mkWL kf i s).1, mC0, (mkWL kf i s).2)
  | 0 => rfl
  | i + 1 => by
    show ins2L (insWL kf mC0 i (s.1, mC0, s.2)) (kf i) 0 = ((ins1L (mkWL kf i s) (kf i)).1, mC0, (ins1L (mkWL kf i s) (kf i)).2)
    rw [mkWL_c0 kf s i]
    show (insF (mkWL kf i s).1 (mkWL kf i s).2 (kf i) _, insG mC0 (mkWL kf i s).2 0 _, insN (mkWL kf i s).2 _) = _
    rw [insG_c0]
    rfl
theorem dropR_c0 (p : Int32 → Bool) : ∀ (i : Nat) (s : T1), dropW (fun k _ => p k) i (s.1, mC0, s.2) = ((dropR p i s).1, mC0, (dropR p i s).2)
  | 0, s => rfl
  | i + 1, s => by
    show dropW (fun k _ => p k) i (if p (s.1 i) then (cutF s.1 s.2 i, cutF mC0 s.2 i, s.2 - 1) else (s.1, mC0, s.2)) = ((dropR p i (if p (s.1 i) then cut1 s i else s)).1, mC0, (dropR p i (if p (s.1 i) then cut1 s i else s)).2)
    rw [cut_c0]
    by_cases q : p (s.1 i) = true
    · rw [if_pos q, if_pos q]
      exact dropR_c0 p i (cut1 s i)
    · rw [if_neg q, if_neg q]
      exact dropR_c0 p i s
theorem dropN_c0 (p : Int32 → Bool) : ∀ (i : Nat) (s : T1), dropM (fun k _ => p k) i (s.1, mC0, s.2) = ((dropN p i s).1, mC0, (dropN p i s).2)
  | 0, s => rfl
  | i + 1, s => by
    show dropM (fun k _ => p k) i (if p (s.1 i) then (swF s.1 s.2 i, swF mC0 s.2 i, s.2 - 1) else (s.1, mC0, s.2)) = ((dropN p i (if p (s.1 i) then sw1 s i else s)).1, mC0, (dropN p i (if p (s.1 i) then sw1 s i else s)).2)
    rw [sw_c0]
    by_cases q : p (s.1 i) = true
    · rw [if_pos q, if_pos q]
      exact dropN_c0 p i (sw1 s i)
    · rw [if_neg q, if_neg q]
      exact dropN_c0 p i s
theorem RM_drop {f f' : Nat → Int32} {n n' : Nat} (h : RM f n f' n') {p p' : Int32 → Bool} (e : ∀ k, p k = p' k) : RM (dropR p n (f, n)).1 (dropR p n (f, n)).2 (dropN p' n' (f', n')).1 (dropN p' n' (f', n')).2 := by
  obtain rfl : p = p' := funext e
  have q := R2_drop (fun k _ => p k) h
  rw [show (f, mC0, n).2.2 = n from rfl, show (f', mC0, n').2.2 = n' from rfl, dropR_c0 p n (f, n), dropN_c0 p n' (f', n')] at q
  exact q
theorem dropR_n (p : Int32 → Bool) (i : Nat) (s : T1) : (dropR p i s).2 ≤ s.2 := by
  have q := dropW_n (fun k _ => p k) i (s.1, mC0, s.2)
  rw [dropR_c0] at q
  exact q
theorem RM_keys {f f' kf kf' : Nat → Int32} {n n' m m' : Nat} (h : RM f n f' n') (hk : RM kf m kf' m') : RM (mkW kf m (f, n)).1 (mkW kf m (f, n)).2 (mkWL kf' m' (f', n')).1 (mkWL kf' m' (f', n')).2 := by
  have q := R2_shelf h hk
  rw [mkW_c0 kf (f, n), mkWL_c0 kf' (f', n')] at q
  exact q
theorem RM_cnt {f f' kf kf' : Nat → Int32} {n n' m m' : Nat} (h : RM f n f' n') (hk : RM kf m kf' m') : cntP (qNew f n kf) m = cntP (qL f' n' kf') m' := shelf_cnt h hk
theorem RM_keysn {f f' kf kf' : Nat → Int32} {n n' m m' : Nat} (h : RM f n f' n') (hk : RM kf m kf' m') : (mkW kf m (f, n)).2 = n + cntP (qNew f n kf) m ∧ (mkWL kf' m' (f', n')).2 = n + cntP (qNew f n kf) m := by
  have q := shelf_n h hk
  rw [mkW_c0 kf (f, n), mkWL_c0 kf' (f', n')] at q
  exact q
theorem RM_0 (f f' : Nat → Int32) : RM f 0 f' 0 := R2_0 _ _ _ _
