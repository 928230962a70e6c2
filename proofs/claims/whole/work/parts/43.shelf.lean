/-! the shelf: the class keeps it in order of use; the reference has the number of each use -/
def R3 (a b : T3) (us : Nat) : Prop := R2 (a.1, a.2.1, a.2.2.2) (b.1, b.2.1, b.2.2.2) ∧ R2 (a.1, a.2.2.1, a.2.2.2) (b.1, b.2.2.1, b.2.2.2) ∧ (∀ i j, i < j → j < a.2.2.2 → a.2.2.1 i < a.2.2.1 j) ∧ (∀ i, i < a.2.2.2 → a.2.2.1 i ≤ nI us)
theorem R3_n {a b : T3} {us : Nat} (h : R3 a b us) : a.2.2.2 = b.2.2.2 := R2_n h.1
theorem R3_c {a b : T3} {us : Nat} (h : R3 a b us) {i : Nat} (hi : i < a.2.2.2) : ∃ j, j < b.2.2.2 ∧ b.1 j = a.1 i ∧ b.2.1 j = a.2.1 i ∧ b.2.2.1 j = a.2.2.1 i := by
  obtain ⟨j, q1, q2, q3⟩ := (h.1.2.2 (a.1 i) (a.2.1 i)).mp ⟨i, hi, rfl, rfl⟩
  obtain ⟨t, q4, q5, q6⟩ := (h.2.1.2.2 (a.1 i) (a.2.2.1 i)).mp ⟨i, hi, rfl, rfl⟩
  have e : t = j := h.1.2.1 t j q4 q1 (q5.trans q2.symm)
  subst e
  exact ⟨t, q1, q2, q3, q6⟩
theorem R3_d {a b : T3} {us : Nat} (h : R3 a b us) {j : Nat} (hj : j < b.2.2.2) : ∃ i, i < a.2.2.2 ∧ b.1 j = a.1 i ∧ b.2.2.1 j = a.2.2.1 i := by
  obtain ⟨i, q1, q2, q3⟩ := (h.2.1.2.2 (b.1 j) (b.2.2.1 j)).mpr ⟨j, hj, rfl, rfl⟩
  exact ⟨i, q1, q2.symm, q3.symm⟩
theorem cnt_lt {q : Nat → Bool} {d : Nat} : ∀ {n : Nat}, d ≤ n → (∀ i, i < n → q i = decide (i < d)) → cntP q n = d
  | 0, hd, _ => by
    have : d = 0 := by omega
    subst this
    rfl
  | n + 1, hd, h => by
    rcases Nat.lt_or_ge n d with h1 | h1
    · have e : d = n + 1 := by omega
      rw [cntP_t (by rw [h n (Nat.lt_succ_self n), decide_eq_true h1]), cnt_lt (d := n) (Nat.le_refl n) (fun i hi => by rw [h i (Nat.lt_succ_of_lt hi), decide_eq_true hi, decide_eq_true (by omega : i < d)]), e]
    · rw [cntP_f (by rw [h n (Nat.lt_succ_self n), decide_eq_false (by omega)])]
      exact cnt_lt h1 (fun i hi => h i (Nat.lt_succ_of_lt hi))
theorem lt_sorted {u : Nat → Int32} {n : Nat} (hs : ∀ i j, i < j → j < n → u i < u j) {i p : Nat} (hi : i < n) (hp : p < n) : decide (u i < u p) = decide (i < p) := by
  rcases Nat.lt_trichotomy i p with h | h | h
  · rw [decide_eq_true h, decide_eq_true (hs i p h hp)]
  · subst h
    rw [decide_eq_false (Nat.lt_irrefl i), decide_eq_false Int32.lt_irrefl]
  · rw [decide_eq_false (Nat.lt_asymm h), decide_eq_false (Int32.lt_asymm (hs p i h hi))]
theorem R3_rank {a b : T3} {us : Nat} (h : R3 a b us) {p j : Nat} (hp : p < a.2.2.2) (e : b.2.2.1 j = a.2.2.1 p) : rk b.2.2.1 b.2.2.2 j = nI p := by
  unfold rk
  refine congrArg nI ?_
  rw [← R2_cnt (q := fun i => decide (a.2.2.1 i < a.2.2.1 p)) (Q := fun _ v => decide (v < a.2.2.1 p)) h.2.1 (fun i _ => rfl) (fun i _ => by rw [e])]
  exact cnt_lt (Nat.le_of_lt hp) (fun i hi => lt_sorted h.2.2.1 hi hp)
theorem R3_pl {a b : T3} {us : Nat} (h : R3 a b us) (hn : a.2.2.2 ≤ 1000) {p : Nat} (hp : p < a.2.2.2) : ∃ j, rL (rk b.2.2.1 b.2.2.2) (nI p) b.2.2.2 = some j ∧ j < b.2.2.2 ∧ b.1 j = a.1 p ∧ b.2.1 j = a.2.1 p ∧ b.2.2.1 j = a.2.2.1 p := by
  obtain ⟨j, q1, q2, q3, q4⟩ := R3_c h hp
  obtain ⟨t, ht⟩ := rL_ex q1 (R3_rank h hp q4)
  obtain ⟨h1, h2⟩ := rL_some ht
  obtain ⟨i, h3, h4, h5⟩ := R3_d h h1
  have h6 : i = p := (nI_eq (by omega) (by omega)).mp ((R3_rank h h3 h5).symm.trans h2)
  subst h6
  have e : t = j := h.1.2.1 t j h1 q1 (h4.trans q2.symm)
  subst e
  exact ⟨t, ht, q1, q2, q3, q4⟩
theorem cutE_lt {j a b : Nat} (h : a < b) : cutE j a < cutE j b := by
  unfold cutE
  split <;> split <;> omega
theorem R3_cut {a b : T3} {us : Nat} (h : R3 a b us) {p j : Nat} (hp : p < a.2.2.2) (hj : j < b.2.2.2) (e : b.1 j = a.1 p) : R3 (cut3 a p) (sw3 b j) us := by
  refine ⟨R2_rem h.1 hp hj e.symm, R2_rem h.2.1 hp hj e.symm, fun x y hxy hy => ?_, fun x hx => ?_⟩
  · have hy : y < a.2.2.2 - 1 := hy
    show cutF a.2.2.1 a.2.2.2 p x < cutF a.2.2.1 a.2.2.2 p y
    rw [cutF_e (Nat.lt_trans hxy hy), cutF_e hy]
    exact h.2.2.1 _ _ (cutE_lt hxy) ((RemE_cut hp).1 y hy).1
  · have hx : x < a.2.2.2 - 1 := hx
    show cutF a.2.2.1 a.2.2.2 p x ≤ nI us
    rw [cutF_e hx]
    exact h.2.2.2 _ ((RemE_cut hp).1 x hx).1
theorem R3_take {f g u f' g' u' : Nat → Int32} {n n' us : Nat} (h : R3 (f, g, u, n) (f', g', u', n') us) (k : Int32) : R3 (delF f n (rF f k n), delF g n (rF f k n), delF u n (rF f k n), delN n (rF f k n)) (swO f' n' (rL f' k n'), swO g' n' (rL f' k n'), swO u' n' (rL f' k n'), delN n' (rL f' k n')) us := by
  have ho := Fnd_rF f n k
  have ho' := Fnd_rL f' n' k
  rcases o_both (R2_map h.1 ho ho') with ⟨e1, e2⟩ | ⟨i, j, e1, e2, -⟩
  · rw [e1, e2]
    exact h
  · obtain ⟨h1, h2⟩ := ho.1 i e1
    obtain ⟨h3, h4⟩ := ho'.1 j e2
    rw [e1, e2]
    exact R3_cut h h1 h3 (h4.trans h2.symm)
theorem R3_drop {a b : T3} {us : Nat} (h : R3 a b us) (hn : a.2.2.2 ≤ 1000) : ∀ {i : Nat}, i ≤ a.2.2.2 → R3 (dr3 i a) (crd i b) us
  | 0, _ => h
  | i + 1, hi => by
    have ih := R3_drop h hn (Nat.le_of_succ_le hi)
    have e : (dr3 i a).2.2.2 = a.2.2.2 - i := dr3_n a i
    obtain ⟨j, q1, q2, q3, -⟩ := R3_pl ih (by omega) (p := 0) (by omega)
    show R3 (cut3 (dr3 i a) 0) (sw3 (crd i b) (pl (crd i b).2.2.1 (crd i b).2.2.2 0)) us
    have e2 : pl (crd i b).2.2.1 (crd i b).2.2.2 0 = j := pl_of q1
    rw [e2]
    exact R3_cut ih (by omega) q2 q3
/-! a use: out, and in again as the last -/
theorem del_none {f : Nat → Int32} {n : Nat} {k : Int32} {o : Option Nat} (hi : Inj f n) (ho : Fnd f n k o) : Fnd (delF f n o) (delN n o) k none := by
  refine ⟨fun _ q => (by cases q), fun _ i hin e => ?_⟩
  cases o with
  | none => exact ho.2 rfl i hin e
  | some j =>
    obtain ⟨h1, h2⟩ := ho.1 j rfl
    have hin : i < n - 1 := hin
    have e : cutF f n j i = k := e
    rw [cutF_e hin] at e
    have h3 := (RemE_cut h1).1 i hin
    exact h3.2 (hi _ _ h3.1 h1 (e.trans h2.symm))
theorem del_Inj {f : Nat → Int32} {n : Nat} {k : Int32} {o : Option Nat} (hi : Inj f n) (ho : Fnd f n k o) : Inj (delF f n o) (delN n o) := by
  cases o with
  | none => exact hi
  | some j => exact cut_Inj (ho.1 j rfl).1 hi
theorem del_Hs {f g : Nat → Int32} {n : Nat} {k : Int32} {o : Option Nat} (hi : Inj f n) (ho : Fnd f n k o) {k' v' : Int32} (hk : k' ≠ k) : Hs (delF f n o, delF g n o, delN n o) k' v' ↔ Hs (f, g, n) k' v' := by
  cases o with
  | none => exact Iff.rfl
  | some j =>
    obtain ⟨h1, h2⟩ := ho.1 j rfl
    exact (cut_Hs h1 hi k' v').trans ⟨And.right, fun q => ⟨fun e => hk (e.trans h2), q⟩⟩
theorem R2_lay {f g f' g' : Nat → Int32} {n n' : Nat} {k : Int32} (v : Int32) {o o' : Option Nat} (h : R2 (f, g, n) (f', g', n')) (ho : Fnd f n k o) (ho' : Fnd f' n' k o') : R2 (upd (delF f n o) (delN n o) k, upd (delF g n o) (delN n o) v, delN n o + 1) (insF f' n' k o', insG g' n' v o', insN n' o') := by
  have hd := del_none h.1 ho
  have hj := del_Inj h.1 ho
  refine ⟨ins_Inj hj hd, ins_Inj h.2.1 ho', fun k' v' => ?_⟩
  have q1 : Hs (upd (delF f n o) (delN n o) k, upd (delF g n o) (delN n o) v, delN n o + 1) k' v' ↔ _ := ins_Hs (g := delF g n o) (v := v) hj hd k' v'
  rw [q1, ins_Hs h.2.1 ho', ← h.2.2 k' v']
  exact or_congr Iff.rfl (and_congr_right fun hk => del_Hs h.1 ho hk)
theorem lay_sorted {u : Nat → Int32} {n us : Nat} {o : Option Nat} (ho : ∀ j, o = some j → j < n) (hs : ∀ i j, i < j → j < n → u i < u j) (hb : ∀ i, i < n → u i ≤ nI us) (hu : us + 1 < 2 ^ 31) :
    (∀ i j, i < j → j < delN n o + 1 → upd (delF u n o) (delN n o) (nI (us + 1)) i < upd (delF u n o) (delN n o) (nI (us + 1)) j) ∧ (∀ i, i < delN n o + 1 → upd (delF u n o) (delN n o) (nI (us + 1)) i ≤ nI (us + 1)) := by
  have hs2 : ∀ i j, i < j → j < delN n o → delF u n o i < delF u n o j := by
    cases o with
    | none => exact hs
    | some t =>
      intro i j h1 h2
      have h2 : j < n - 1 := h2
      show cutF u n t i < cutF u n t j
      rw [cutF_e (Nat.lt_trans h1 h2), cutF_e h2]
      exact hs _ _ (cutE_lt h1) ((RemE_cut (ho t rfl)).1 j h2).1
  have hb2 : ∀ i, i < delN n o → delF u n o i ≤ nI us := by
    cases o with
    | none => exact hb
    | some t =>
      intro i h2
      have h2 : i < n - 1 := h2
      show cutF u n t i ≤ nI us
      rw [cutF_e h2]
      exact hb _ ((RemE_cut (ho t rfl)).1 i h2).1
  have hlt : nI us < nI (us + 1) := nI_lt (Nat.lt_succ_self us) hu
  refine ⟨fun i j h1 h2 => ?_, fun i h2 => ?_⟩
  · rw [pk_un (by omega : i ≠ delN n o)]
    by_cases e : j = delN n o
    · rw [e, pk_us]
      exact Int32.lt_of_le_of_lt (hb2 i (by omega)) hlt
    · rw [pk_un e]
      exact hs2 i j h1 (by omega)
  · by_cases e : i = delN n o
    · rw [e, pk_us]
      exact Int32.le_refl _
    · rw [pk_un e]
      exact Int32.le_trans (hb2 i (by omega)) (Int32.le_of_lt hlt)
section R3acts
variable {f g u f' g' u' : Nat → Int32} {n n' us : Nat}
theorem R3_lays (h : R3 (f, g, u, n) (f', g', u', n') us) (hu : us + 1 < 2 ^ 31) (k v : Int32) : R3 (upd (delF f n (rF f k n)) (delN n (rF f k n)) k, upd (delF g n (rF f k n)) (delN n (rF f k n)) v, upd (delF u n (rF f k n)) (delN n (rF f k n)) (nI (us + 1)), delN n (rF f k n) + 1) (laysS f' g' u' n' (rL f' k n') k v (nI (us + 1))) (us + 1) := by
  have ho := Fnd_rF f n k
  have ho' := Fnd_rL f' n' k
  have hs := lay_sorted (o := rF f k n) (fun j q => rF_ho j q) h.2.2.1 h.2.2.2 hu
  exact ⟨R2_lay v h.1 ho ho', R2_lay (nI (us + 1)) h.2.1 ho ho', hs.1, hs.2⟩
theorem R3_lay (h : R3 (f, g, u, n) (f', g', u', n') us) (hu : us + 1 < 2 ^ 31) (k v : Int32) {room : Nat} (hn : n ≤ 60) : R3 (lay3 f g u n (rF f k n) k v (nI (us + 1)) room) (lays3 f' g' u' n' (rL f' k n') k v (nI (us + 1)) room) (us + 1) ∧ delN n (rF f k n) + 1 = insN n' (rL f' k n') ∧ (lay3 f g u n (rF f k n) k v (nI (us + 1)) room).2.2.2 ≤ room := by
  have h1 := R3_lays h hu k v
  have e : delN n (rF f k n) + 1 = insN n' (rL f' k n') := R3_n h1
  have e2 := delN_le n (rF f k n)
  refine ⟨?_, e, ?_⟩
  · unfold lay3 lays3
    rw [← e]
    exact R3_drop h1 (show delN n (rF f k n) + 1 ≤ 1000 by omega) (Nat.sub_le _ _)
  · unfold lay3
    rw [dr3_n]
    show delN n (rF f k n) + 1 - (delN n (rF f k n) + 1 - room) ≤ room
    omega
theorem R3_room (h : R3 (f, g, u, n) (f', g', u', n') us) {room : Nat} (hn : n ≤ 60) : R3 (dr3 (n - room) (f, g, u, n)) (crd (n' - room) (f', g', u', n')) us ∧ (dr3 (n - room) (f, g, u, n)).2.2.2 ≤ room := by
  have e : n = n' := R3_n h
  refine ⟨?_, ?_⟩
  · rw [show n' - room = n - room by rw [e]]
    exact R3_drop (i := n - room) h (show n ≤ 1000 by omega) (Nat.sub_le n room)
  · rw [dr3_n]
    show n - (n - room) ≤ room
    omega
theorem upd_self (f : Nat → Int32) (j : Nat) : upd f j (f j) = f := by
  funext t
  unfold upd
  split
  · rename_i q
    rw [q]
  · rfl
theorem R3_use (h : R3 (f, g, u, n) (f', g', u', n') us) (hu : us + 1 < 2 ^ 31) (k : Int32) {room : Nat} (hn : n ≤ room) : R3 (use3 f g u n (rF f k n) k (nI (us + 1)) room) (f', g', usM u' us (rL f' k n'), n') (useU us (rF f k n)) := by
  have h1 := R3_lays h hu k
  rcases o_both (R2_map h.1 (Fnd_rF f n k) (Fnd_rL f' n' k)) with ⟨e1, e2⟩ | ⟨i, j, e1, e2, e3⟩
  · rw [e1, e2]
    exact h
  · have h2 := h1 (g i)
    have e3 : g i = g' j := e3
    have hi := (rF_some e1).1
    rw [e1, e2] at h2 ⊢
    show R3 (dr3 (n - 1 + 1 - room) _) _ (us + 1)
    rw [show n - 1 + 1 - room = 0 by omega]
    have h3 : R3 (upd (delF f n (some i)) (delN n (some i)) k, upd (delF g n (some i)) (delN n (some i)) (g i), upd (delF u n (some i)) (delN n (some i)) (nI (us + 1)), delN n (some i) + 1) (f', upd g' j (g i), upd u' j (nI (us + 1)), n') (us + 1) := h2
    rw [e3, upd_self] at h3
    rw [e3]
    exact h3
theorem R3_useN (h : R3 (f, g, u, n) (f', g', u', n') us) (hu : us + 1 < 2 ^ 31) (k : Int32) {room : Nat} (hn : n ≤ room) : (use3 f g u n (rF f k n) k (nI (us + 1)) room).2.2.2 ≤ room := by
  have q := R3_n (R3_use h hu k hn)
  have e : n = n' := R3_n h
  rw [q]
  show n' ≤ room
  omega
theorem R3_useU (h : R3 (f, g, u, n) (f', g', u', n') us) (k : Int32) : useU us (rF f k n) = useU us (rL f' k n') := by
  rcases o_both (R2_map h.1 (Fnd_rF f n k) (Fnd_rL f' n' k)) with ⟨e1, e2⟩ | ⟨i, j, e1, e2, e3⟩ <;> rw [e1, e2] <;> rfl
theorem useU_le (us : Nat) (o : Option Nat) : useU us o ≤ us + 1 := by
  cases o
  · exact Nat.le_succ us
  · exact Nat.le_refl _
theorem useW_0 {aw : Int32} {room : Nat} {k : Int32} (hn : n ≤ room) : useW n room aw (rF f k n) = aw := by
  cases ho : rF f k n with
  | none => rfl
  | some j =>
    have h1 := (rF_some ho).1
    show aw + nI (n - 1 + 1 - room) = aw
    rw [show n - 1 + 1 - room = 0 by omega]
    exact Int32.add_zero aw
theorem wlk_congr {f2 g2 : Nat → Int32} : ∀ {n : Nat}, (∀ i, i < n → f i = f2 i ∧ g i = g2 i) → wlk f g n = wlk f2 g2 n
  | 0, _ => rfl
  | n + 1, h => by
    show 31 * (31 * wlk f g n + (f n).toInt64) + (g n).toInt64 = 31 * (31 * wlk f2 g2 n + (f2 n).toInt64) + (g2 n).toInt64
    rw [wlk_congr (fun i hi => h i (Nat.lt_succ_of_lt hi)), (h n (Nat.lt_succ_self n)).1, (h n (Nat.lt_succ_self n)).2]
theorem R3_walk (h : R3 (f, g, u, n) (f', g', u', n') us) (hn : n ≤ 60) : wlk f g n = wlk (fun p9 => f' (pl u' n' (nI p9))) (fun p9 => g' (pl u' n' (nI p9))) n' := by
  have e : n = n' := R3_n h
  rw [← e]
  refine wlk_congr (fun i hi => ?_)
  obtain ⟨j, q1, q2, q3, q4, q5⟩ := R3_pl h (show n ≤ 1000 by omega) (show i < n from hi)
  have q1 : rL (rk u' n') (nI i) n' = some j := q1
  rw [← e] at q1
  show f i = f' (pl u' n (nI i)) ∧ g i = g' (pl u' n (nI i))
  rw [pl_of q1]
  exact ⟨q3.symm, q4.symm⟩
theorem R3_pls (h : R3 (f, g, u, n) (f', g', u', n') us) (hn : n ≤ 60) : ∀ p9, p9 < n' → ∃ j9, rL (rk u' n') (nI p9) n' = some j9 := fun p9 hp => by
  have e : n = n' := R3_n h
  obtain ⟨j, q1, -⟩ := R3_pl h (show n ≤ 1000 by omega) (show p9 < n by omega)
  exact ⟨j, q1⟩
theorem R3_0 : R3 (f, g, u, 0) (f', g', u', 0) us := ⟨R2_0 _ _ _ _, R2_0 _ _ _ _, fun i j _ h => absurd h (Nat.not_lt_zero _), fun i h => absurd h (Nat.not_lt_zero _)⟩
theorem R3_used (h : R3 (f, g, u, n) (f', g', u', n') us) (k : Int32) : orO u 0 (rF f k n) = orO u' 0 (rL f' k n') := R2_orO h.2.1 k 0
end R3acts
/-! what a number of the script may be -/
theorem in_01 {lo hi x : Int32} (h : (decide (lo ≤ x) && decide (x ≤ hi)) = true) : lo ≤ x ∧ x ≤ hi := by
  rw [Bool.and_eq_true, decide_eq_true_eq, decide_eq_true_eq] at h
  exact h
theorem fill_is (x : Int32) : (∃ m : Nat, m ≤ 64 ∧ x = nI m) ∨ (decide ((0 : Int32) ≤ x) && decide (x ≤ 64)) = false := by
  cases h : (decide ((0 : Int32) ≤ x) && decide (x ≤ 64)) with
  | false => exact Or.inr rfl
  | true => exact Or.inl (nI_of2 (M := 64) (by decide) (Int32.not_lt.mpr (in_01 h).1) (in_01 h).2)
theorem room_is (x : Int32) : (∃ m : Nat, 1 ≤ m ∧ m ≤ 60 ∧ x = nI m) ∨ (decide ((1 : Int32) ≤ x) && decide (x ≤ 60)) = false := by
  cases h : (decide ((1 : Int32) ≤ x) && decide (x ≤ 60)) with
  | false => exact Or.inr rfl
  | true =>
    obtain ⟨m, h1, rfl⟩ := nI_of2 (x := x) (M := 60) (n := 60) (by decide) (Int32.not_lt.mpr (Int32.le_trans (by decide : (0 : Int32) ≤ 1) (in_01 h).1)) (in_01 h).2
    refine Or.inl ⟨m, ?_, h1, rfl⟩
    rcases Nat.eq_zero_or_pos m with q | q
    · subst q
      exact absurd (in_01 h).1 (by decide)
    · exact q
theorem word_is (x : Int32) : ((decide ((0 : Int32) ≤ x) && decide (x ≤ 18277)) = true ∧ ¬ x < 0 ∧ x ≤ 18277) ∨ (decide ((0 : Int32) ≤ x) && decide (x ≤ 18277)) = false := by
  cases h : (decide ((0 : Int32) ≤ x) && decide (x ≤ 18277)) with
  | false => exact Or.inr rfl
  | true => exact Or.inl ⟨rfl, Int32.not_lt.mpr (in_01 h).1, (in_01 h).2⟩
theorem place_is (x : Int32) {n : Nat} (hn : n ≤ 61) : (∃ j : Nat, j < n ∧ x = nI j) ∨ ((x < 0 ∨ nI n ≤ x) ∧ (decide ((0 : Int32) ≤ x) && decide (x ≤ nI n - 1)) = false) := by
  rcases pk_ix x (n := n) (by omega) with h | h | h
  · exact Or.inr ⟨Or.inl h, by rw [decide_eq_false (Int32.not_le.mpr h)]; rfl⟩
  · refine Or.inr ⟨Or.inr h, ?_⟩
    rw [decide_eq_false (p := x ≤ nI n - 1), Bool.and_false]
    intro q
    have e : nI n - 1 < nI n := by
      cases n with
      | zero => decide
      | succ t =>
        rw [nI_pred]
        exact nI_lt (Nat.lt_succ_self t) (by omega)
    exact Int32.lt_irrefl (Int32.lt_of_le_of_lt (Int32.le_trans h q) e)
  · exact Or.inl h
/-! what a call may meet -/
section LCases
variable {f g u f' g' u' fs gs fs' gs' : Nat → Int32} {n n' ns ns' us : Nat}
theorem fill_cases (hT : R2 (f, g, n) (f', g', n')) (hn : n ≤ 200) (a st x : Int32) : (∃ m : Nat, m ≤ 64 ∧ x = nI m ∧ nkF f n a st m ≤ 200 - n ∧ n' + lackN f' n' (fillK a st) m ≤ 200 ∧ (insW (fillK a st) nI m (f, g, n)).2.2 ≤ 200 ∧ (insWL (fillK a st) nI m (f', g', n')).2.2 ≤ 200 ∧ (insW (fillK a st) nI m (f, g, n)).2.2 = (insWL (fillK a st) nI m (f', g', n')).2.2) ∨ (∃ m : Nat, m ≤ 64 ∧ x = nI m ∧ 200 - n < nkF f n a st m ∧ 200 < n' + lackN f' n' (fillK a st) m) ∨ (decide ((0 : Int32) ≤ x) && decide (x ≤ 64)) = false := by
  rcases fill_is x with ⟨m, h1, h2⟩ | h
  · have e1 := nkF_lack hT a st m
    obtain ⟨e2, e3⟩ := fill_n hT a st m nI
    have e4 : n = n' := R2_n hT
    by_cases hq : nkF f n a st m ≤ 200 - n
    · exact Or.inl ⟨m, h1, h2, hq, by omega, by omega, by omega, by omega⟩
    · exact Or.inr (Or.inl ⟨m, h1, h2, by omega, by omega⟩)
  · exact Or.inr (Or.inr h)
theorem shelf_cases (hT : R2 (f, g, n) (f', g', n')) (hs : R2 (fs, gs, ns) (fs', gs', ns')) (hn : n ≤ 200) : (cntP (qNew f n fs) ns ≤ 200 - n ∧ n' + cntP (qL f' n' fs') ns' ≤ 200 ∧ (insW fs gs ns (f, g, n)).2.2 ≤ 200 ∧ (insWL fs' gs' ns' (f', g', n')).2.2 ≤ 200 ∧ (insW fs gs ns (f, g, n)).2.2 = (insWL fs' gs' ns' (f', g', n')).2.2) ∨ (200 - n < cntP (qNew f n fs) ns ∧ 200 < n' + cntP (qL f' n' fs') ns') := by
  have e1 := shelf_cnt hT hs
  obtain ⟨e2, e3⟩ := shelf_n hT hs
  have e4 : n = n' := R2_n hT
  by_cases hq : cntP (qNew f n fs) ns ≤ 200 - n
  · exact Or.inl ⟨hq, by omega, by omega, by omega, by omega⟩
  · exact Or.inr ⟨by omega, by omega⟩
theorem marks_cases (hM : RM f n f' n') (hk : RM fs ns fs' ns') (hn : n ≤ 200) : (cntP (qNew f n fs) ns ≤ 200 - n ∧ n' + cntP (qL f' n' fs') ns' ≤ 200 ∧ (mkW fs ns (f, n)).2 ≤ 200 ∧ (mkWL fs' ns' (f', n')).2 ≤ 200 ∧ (mkW fs ns (f, n)).2 = (mkWL fs' ns' (f', n')).2) ∨ (200 - n < cntP (qNew f n fs) ns ∧ 200 < n' + cntP (qL f' n' fs') ns') := by
  have e1 := RM_cnt hM hk
  obtain ⟨e2, e3⟩ := RM_keysn hM hk
  have e4 : n = n' := RM_n hM
  by_cases hq : cntP (qNew f n fs) ns ≤ 200 - n
  · exact Or.inl ⟨hq, by omega, by omega, by omega, by omega⟩
  · exact Or.inr ⟨by omega, by omega⟩
theorem R2_full2 (h : R2 (f, g, n) (f', g', n')) (k : Int32) (hn : n ≤ 200) : (rF f k n = none ∧ n = 200 ∧ rL f' k n' = none ∧ n' = 200) ∨ ((rF f k n = none → n < 200) ∧ (rL f' k n' = none → n' < 200)) := by
  have e4 : n = n' := R2_n h
  have e := R2_some h k
  rcases R2_full h k hn with ⟨h1, h2, h3⟩ | ⟨h1, h2⟩
  · refine Or.inl ⟨h2, h3, o_none ?_, e4.symm.trans h3⟩
    rw [← e, h2]
    rfl
  · refine Or.inr ⟨h2, fun q => ?_⟩
    rw [← e4]
    refine h2 (o_none ?_)
    rw [e, q]
    rfl
theorem count_cases (h : R2 (f, g, n) (f', g', n')) (k : Int32) (hn : n ≤ 200) : ((decide ((0 : Int32) ≤ k) && decide (k ≤ 18277)) = true ∧ ¬ k < 0 ∧ k ≤ 18277 ∧ (rF f k n = none → n < 200) ∧ (rL f' k n' = none → n' < 200)) ∨ ((decide ((0 : Int32) ≤ k) && decide (k ≤ 18277)) = true ∧ ¬ k < 0 ∧ k ≤ 18277 ∧ rF f k n = none ∧ n = 200 ∧ rL f' k n' = none ∧ n' = 200) ∨ (decide ((0 : Int32) ≤ k) && decide (k ≤ 18277)) = false := by
  rcases word_is k with ⟨h1, h2, h3⟩ | h1
  · rcases R2_full2 h k hn with ⟨q1, q2, q3, q4⟩ | ⟨q1, q2⟩
    · exact Or.inr (Or.inl ⟨h1, h2, h3, q1, q2, q3, q4⟩)
    · exact Or.inl ⟨h1, h2, h3, q1, q2⟩
  · exact Or.inr (Or.inr h1)
theorem R2_cnt1 (h : R2 (f, g, n) (f', g', n')) (k : Int32) : R2 (insF f n k (rF f k n), insG g n (orO g 0 (rF f k n) + 1) (rF f k n), insN n (rF f k n)) (insF f' n' k (rL f' k n'), insG g' n' (orO g' 0 (rL f' k n') + 1) (rL f' k n'), insN n' (rL f' k n')) := by
  rw [← R2_orO h k 0]
  exact R2_ins _ h (Fnd_rF f n k) (Fnd_rL f' n' k)
theorem place_cases (h : R3 (f, g, u, n) (f', g', u', n') us) (hn : n ≤ 60) (x : Int32) : (∃ j : Nat, j < n ∧ x = nI j ∧ j < n' ∧ ∃ t : Nat, rL (rk u' n') (nI j) n' = some t ∧ f' t = f j ∧ g' t = g j) ∨ ((x < 0 ∨ nI n ≤ x) ∧ (decide ((0 : Int32) ≤ x) && decide (x ≤ nI n' - 1)) = false) := by
  have e4 : n = n' := R3_n h
  rcases place_is x (n := n) (by omega) with ⟨j, h1, h2⟩ | ⟨h1, h2⟩
  · obtain ⟨t, q1, q2, q3, q4, q5⟩ := R3_pl h (show n ≤ 1000 by omega) (show j < n from h1)
    exact Or.inl ⟨j, h1, h2, by omega, t, q1, q3, q4⟩
  · rw [e4] at h2
    exact Or.inr ⟨h1, h2⟩
theorem R3_layA (h : R3 (f, g, u, n) (f', g', u', n') us) (hu : us + 1 < 2 ^ 31) (k v : Int32) {room : Nat} (hn : n ≤ 60) : R3 (lay3 f g u n (rF f k n) k (orO g v (rF f k n)) (nI (us + 1)) room) (lays3 f' g' u' n' (rL f' k n') k (orO g' v (rL f' k n')) (nI (us + 1)) room) (us + 1) := by
  rw [← R2_orO h.1 k v]
  exact (R3_lay h hu k _ hn).1
end LCases
