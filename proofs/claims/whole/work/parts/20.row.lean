set_option maxHeartbeats 4000000 in
set_option maxRecDepth 100000 in
theorem c_X1_held (l : Launch) (D : va_G) (I J : ClassId) (sz : Nat) (rZ : Nat) (aZ : Nat) (nZ : Nat)  : mCi l yX1_held wsX1_held 0 0 0 0 D I J [.ref rZ] [(rZ, .inr (1, [.ref aZ, .int (nI nZ)]))] sz (fun (x : Int32) (u : Unit) => x = (nI nZ)) (fun (u : Unit) => [(rZ, .inr (1, [.ref aZ, .int (nI nZ)]))]) := by
  refine m_ofi (cc := cX1_held) (maxL := 1) (ret := (some .int)) (by decide) rfl (Nat.le_of_ble_eq_true rfl) ?_
  intro p e s m args below meth c A ls hx hb hr hlocks hml hts hown hin hK hP hD hA hS hl
  have hl : lv_has ls 1 [(0, .ref rZ)] := hl
  have hP : va_P D vwCl [(rZ, .inr (1, [.ref aZ, .int (nI nZ)]))] s.heap := hP
  have hD : va_D A [(rZ, .inr (1, [.ref aZ, .int (nI nZ)]))] := hD
  refine lv_aload_n hx hb dX1_held_0 rfl (lv_at hl 0 rfl) ?_
  refine va_get (D := D) (ci := 1) (v := .int (nI nZ)) (C := RX1) (T := TX1) (N := 2) hx hb hts (fun _ h => List.mem_cons_of_mem _ (List.mem_append_right _ h)) hown hK hP 0 rfl rfl 1 (by decide) (hts (.fieldLink RX1 21 "MapsByUse$Row" "inUse" "I") (List.mem_of_getElem? (i := 1) (by decide +kernel))) (fun _ h9 => h9) rfl dX1_held_1 ?_
  refine m_iret () hx hb hr hlocks hP hD hS dX1_held_4 (by first | exact Nat.le_of_ble_eq_true rfl | omega) (by first | exact Nat.le_of_ble_eq_true rfl | omega) ?_
  rfl

set_option maxHeartbeats 4000000 in
set_option maxRecDepth 100000 in
theorem c_X1_isPlace (l : Launch) (D : va_G) (I J : ClassId) (sz : Nat) (rZ : Nat) (aZ : Nat) (nZ : Nat) (oZ : Option Nat) (ho : ∀ jZ, oZ = some jZ → jZ < nZ) (hn1 : nZ ≤ 1000) : mCi l yX1_isPlace wsX1_isPlace 0 0 0 0 D I J [.ref rZ, .int (iO oZ)] [(rZ, .inr (1, [.ref aZ, .int (nI nZ)]))] sz (fun (x : Int32) (u : Unit) => x = (bI oZ.isSome)) (fun (u : Unit) => [(rZ, .inr (1, [.ref aZ, .int (nI nZ)]))]) := by
  refine m_ofi (cc := cX1_isPlace) (maxL := 2) (ret := (some .boolean)) (by decide) rfl (Nat.le_of_ble_eq_true rfl) ?_
  intro p e s m args below meth c A ls hx hb hr hlocks hml hts hown hin hK hP hD hA hS hl
  have hl : lv_has ls 2 [(0, .ref rZ), (1, .int (iO oZ))] := hl
  have hP : va_P D vwCl [(rZ, .inr (1, [.ref aZ, .int (nI nZ)]))] s.heap := hP
  have hD : va_D A [(rZ, .inr (1, [.ref aZ, .int (nI nZ)]))] := hD
  refine lv_iload_n hx hb dX1_isPlace_0 rfl (lv_at hl 1 rfl) ?_
  refine lv_if_lt (tgt := 16) hx hb dX1_isPlace_1 (by decide) (fun c_1 => ?_) (fun c_1 => ?_)
  · --1T
    refine lv_iconst (v := 0) hx hb dX1_isPlace_16 (by decide) ?_
    refine m_zret () hx hb hr hlocks hP hD hS dX1_isPlace_17 (by first | exact Nat.le_of_ble_eq_true rfl | omega) (by first | exact Nat.le_of_ble_eq_true rfl | omega) (by rfl) ?_
    cases oZ with
        | none => rfl
        | some jZ => exact absurd c_1 (nI_pos (by have := ho jZ rfl; omega))
  · --1F
    refine lv_iload_n hx hb dX1_isPlace_4 rfl (lv_at hl 1 rfl) ?_
    refine lv_aload_n hx hb dX1_isPlace_5 rfl (lv_at hl 0 rfl) ?_
    refine va_get (D := D) (ci := 1) (v := .int (nI nZ)) (C := RX1) (T := TX1) (N := 2) hx hb hts (fun _ h => List.mem_cons_of_mem _ (List.mem_append_right _ h)) hown hK hP 0 rfl rfl 1 (by decide) (hts (.fieldLink RX1 21 "MapsByUse$Row" "inUse" "I") (List.mem_of_getElem? (i := 1) (by decide +kernel))) (fun _ h9 => h9) rfl dX1_isPlace_6 ?_
    refine lv_icmp_ge (tgt := 16) hx hb dX1_isPlace_9 (by decide) (fun c_9 => ?_) (fun c_9 => ?_)
    · --1F9T
      refine lv_iconst (v := 0) hx hb dX1_isPlace_16 (by decide) ?_
      refine m_zret () hx hb hr hlocks hP hD hS dX1_isPlace_17 (by first | exact Nat.le_of_ble_eq_true rfl | omega) (by first | exact Nat.le_of_ble_eq_true rfl | omega) (by rfl) ?_
      cases oZ with
          | none => exact absurd (by decide) c_1
          | some jZ => exact absurd c_9 (nI_ge (ho jZ rfl) (by omega))
    · --1F9F
      refine lv_iconst (v := 1) hx hb dX1_isPlace_12 (by decide) ?_
      refine lv_goto (tgt := 17) hx hb dX1_isPlace_13 (by decide) ?_
      refine m_zret () hx hb hr hlocks hP hD hS dX1_isPlace_17 (by first | exact Nat.le_of_ble_eq_true rfl | omega) (by first | exact Nat.le_of_ble_eq_true rfl | omega) (by rfl) ?_
      cases oZ with
          | none => exact absurd (by decide) c_1
          | some jZ => rfl

set_option maxHeartbeats 4000000 in
set_option maxRecDepth 100000 in
theorem c_X1_placeOf (l : Launch) (D : va_G) (I J : ClassId) (sz : Nat) (rZ : Nat) (aZ : Nat) (nZ : Nat) (NZ : Nat) (fZ : Nat → Int32) (vZ : Int32) (hn : nZ ≤ NZ) (hN : NZ ≤ 1000) : mCi l yX1_placeOf wsX1_placeOf 0 0 0 0 D I J [.ref rZ, .int vZ] [(rZ, .inr (1, [.ref aZ, .int (nI nZ)])), (aZ, .inl (I, NZ, .inl fZ))] sz (fun (x : Int32) (u : Unit) => x = (iO (rF fZ vZ nZ))) (fun (u : Unit) => [(rZ, .inr (1, [.ref aZ, .int (nI nZ)])), (aZ, .inl (I, NZ, .inl fZ))]) := by
  refine m_ofi (cc := cX1_placeOf) (maxL := 3) (ret := (some .int)) (by decide) rfl (Nat.le_of_ble_eq_true rfl) ?_
  intro p e s m args below meth c A ls hx hb hr hlocks hml hts hown hin hK hP hD hA hS hl
  have hl : lv_has ls 3 [(0, .ref rZ), (1, .int vZ)] := hl
  have hP : va_P D vwCl [(rZ, .inr (1, [.ref aZ, .int (nI nZ)])), (aZ, .inl (I, NZ, .inl fZ))] s.heap := hP
  have hD : va_D A [(rZ, .inr (1, [.ref aZ, .int (nI nZ)])), (aZ, .inl (I, NZ, .inl fZ))] := hD
  refine lv_iconst (v := 0) hx hb dX1_placeOf_0 (by decide) ?_
  refine lv_istore_n (lv' := [(2, .int 0), (0, .ref rZ), (1, .int vZ)]) hx hb dX1_placeOf_1 rfl hl (by decide) rfl (fun ls hl => ?_)
  have loop_2 : ∀ (k_2 : Nat) (iZ : Nat) (x_2 : Int32) (ex_2 : x_2 = (nI iZ)) (hi : iZ ≤ nZ) (hf : rF fZ vZ iZ = none) (hm_ : nZ - iZ < k_2) (H : Heap) (locs : List Loc) (hP : va_P D vwCl [(rZ, .inr (1, [.ref aZ, .int (nI nZ)])), (aZ, .inl (I, NZ, .inl fZ))] H) (hD : va_D A [(rZ, .inr (1, [.ref aZ, .int (nI nZ)])), (aZ, .inl (I, NZ, .inl fZ))]) (hS : va_S A s.heap H locs) (ls : Array Slot) (hl : lv_has ls 3 [(0, .ref rZ), (1, .int vZ), (2, .int x_2)]), W p l e (mRm 0 0 0 0) s m args below meth c H locs 0 0 (MQ below (va_Qi (fun (x : Int32) (u : Unit) => x = (iO (rF fZ vZ nZ))) (mB D (fun (u : Unit) => [(rZ, .inr (1, [.ref aZ, .int (nI nZ)])), (aZ, .inl (I, NZ, .inl fZ))]) A) A) args s 0 0 A) (F0 m 2 ls []) := by
    intro k_2
    induction k_2 with
    | zero => intro iZ x_2 ex_2 hi hf hm_; exact absurd hm_ (Nat.not_lt_zero _)
    | succ k_2 ih_2 =>
      intro iZ x_2 ex_2 hi hf hm_ H locs hP hD hS ls hl
      subst ex_2
      refine lv_iload_n hx hb dX1_placeOf_2 rfl (lv_at hl 2 rfl) ?_
      refine lv_aload_n hx hb dX1_placeOf_3 rfl (lv_at hl 0 rfl) ?_
      refine va_get (D := D) (ci := 1) (v := .int (nI nZ)) (C := RX1) (T := TX1) (N := 2) hx hb hts (fun _ h => List.mem_cons_of_mem _ (List.mem_append_right _ h)) hown hK hP 0 rfl rfl 1 (by decide) (hts (.fieldLink RX1 21 "MapsByUse$Row" "inUse" "I") (List.mem_of_getElem? (i := 1) (by decide +kernel))) (fun _ h9 => h9) rfl dX1_placeOf_4 ?_
      refine lv_icmp_ge (tgt := 28) hx hb dX1_placeOf_7 (by decide) (fun c_7 => ?_) (fun c_7 => ?_)
      · --L27T
        refine lv_iconst (v := (-1)) hx hb dX1_placeOf_28 (by decide) ?_
        refine m_iret () hx hb hr hlocks hP hD hS dX1_placeOf_29 (by first | exact Nat.le_of_ble_eq_true rfl | omega) (by first | exact Nat.le_of_ble_eq_true rfl | omega) ?_
        have q := (nI_leI (by omega) (by omega)).mp c_7
        have e : iZ = nZ := by omega
        subst e
        rw [hf]
        rfl
      · --L27F
        have hlt : iZ < nZ := by
          rcases Nat.lt_or_ge iZ nZ with q | q
          · exact q
          · exact absurd ((nI_leI (by omega) (by omega)).mpr q) c_7
        refine lv_aload_n hx hb dX1_placeOf_10 rfl (lv_at hl 0 rfl) ?_
        refine va_get (D := D) (ci := 1) (v := .ref aZ) (C := RX1) (T := TX1) (N := 2) hx hb hts (fun _ h => List.mem_cons_of_mem _ (List.mem_append_right _ h)) hown hK hP 0 rfl rfl 0 (by decide) (hts (.fieldLink RX1 15 "MapsByUse$Row" "numbers" "[I") (List.mem_of_getElem? (i := 2) (by decide +kernel))) (fun _ h9 => h9) rfl dX1_placeOf_11 ?_
        refine lv_iload_n hx hb dX1_placeOf_14 rfl (lv_at hl 2 rfl) ?_
        refine m_iald (D := D) (cl := vwCl) hx hb hK hP 1 0 (j := iZ) rfl rfl (by rfl) (by omega) (by omega) dX1_placeOf_15 ?_
        refine lv_iload_n hx hb dX1_placeOf_16 rfl (lv_at hl 1 rfl) ?_
        refine lv_icmp_ne (tgt := 22) hx hb dX1_placeOf_17 (by decide) (fun c_17 => ?_) (fun c_17 => ?_)
        · --L27F17T
          refine lv_iinc (v := (nI (iZ + 1))) (lv' := [(2, .int (nI (iZ + 1))), (0, .ref rZ), (1, .int vZ)]) hx hb dX1_placeOf_22 hl (k := 2) rfl (nI_1 _) (by decide) rfl (fun ls hl => ?_)
          refine lv_goto (tgt := 2) hx hb dX1_placeOf_25 (by decide) ?_
          exact ih_2  (iZ + 1) _ (by rfl) (by first | assumption | omega | rfl) (by exact rF_miss hf c_17) (by omega) _ _ hP hD hS ls (lv_sub hl [1, 2, 0] rfl)
        · --L27F17F
          refine lv_iload_n hx hb dX1_placeOf_20 rfl (lv_at hl 2 rfl) ?_
          refine m_iret () hx hb hr hlocks hP hD hS dX1_placeOf_21 (by first | exact Nat.le_of_ble_eq_true rfl | omega) (by first | exact Nat.le_of_ble_eq_true rfl | omega) ?_
          rw [rF_hit hf c_17 hlt]
          rfl
  exact loop_2 (nZ - 0 + 1) 0 _ (by first | rfl | simp [nI_1, nI_0]) (by first | assumption | omega | rfl) (by first | assumption | omega | rfl) (by exact Nat.lt_succ_self _) _ _ hP hD hS ls (lv_sub hl [1, 2, 0] rfl)

set_option maxHeartbeats 4000000 in
set_option maxRecDepth 100000 in
theorem c_X1_has (l : Launch) (D : va_G) (I J : ClassId) (sz : Nat) (rZ : Nat) (aZ : Nat) (nZ : Nat) (NZ : Nat) (fZ : Nat → Int32) (vZ : Int32) (hn : nZ ≤ NZ) (hN : NZ ≤ 1000) : mCi l yX1_has wsX1_has 1 22 0 0 D I J [.ref rZ, .int vZ] [(rZ, .inr (1, [.ref aZ, .int (nI nZ)])), (aZ, .inl (I, NZ, .inl fZ))] sz (fun (x : Int32) (u : Unit) => x = (bI (rF fZ vZ nZ).isSome)) (fun (u : Unit) => [(rZ, .inr (1, [.ref aZ, .int (nI nZ)])), (aZ, .inl (I, NZ, .inl fZ))]) := by
  refine m_ofi (cc := cX1_has) (maxL := 2) (ret := (some .boolean)) (by decide) rfl (Nat.le_of_ble_eq_true rfl) ?_
  intro p e s m args below meth c A ls hx hb hr hlocks hml hts hown hin hK hP hD hA hS hl
  have hl : lv_has ls 2 [(0, .ref rZ), (1, .int vZ)] := hl
  have hP : va_P D vwCl [(rZ, .inr (1, [.ref aZ, .int (nI nZ)])), (aZ, .inl (I, NZ, .inl fZ))] s.heap := hP
  have hD : va_D A [(rZ, .inr (1, [.ref aZ, .int (nI nZ)])), (aZ, .inl (I, NZ, .inl fZ))] := hD
  refine lv_aload_n hx hb dX1_has_0 rfl (lv_at hl 0 rfl) ?_
  refine lv_iload_n hx hb dX1_has_1 rfl (lv_at hl 1 rfl) ?_
  refine m_Vi (As := [.int vZ]) (wr := []) (ws2 := fun _ => [(rZ, .inr (1, [.ref aZ, .int (nI nZ)])), (aZ, .inl (I, NZ, .inl fZ))]) ⟨hx, hb, hml, hown, hts⟩ hA hK hP hD hS hl.1 (c_X1_placeOf l D I J s.heap.size rZ aZ nZ NZ fZ vZ (by omega) (by omega)) (cwV 1 hts gX1_has_X1_placeOf rfl rfl rfl (by decide +kernel) ⟨Nat.le_of_ble_eq_true rfl, Nat.le_of_ble_eq_true rfl⟩) [0, 1] [] [0, 1] 0 1 rfl rfl rfl rfl rfl (by decide) (by decide) (by decide) (by decide) (fun _ => rfl) rfl rfl (Nat.le_of_ble_eq_true rfl) dX1_has_2 ⟨(by exact Nat.le_of_ble_eq_true rfl), (by exact Nat.le_of_ble_eq_true rfl)⟩ (fun r_2 u_2 H locs hw_2 hP hD hS => ?_)
  try dsimp only at hw_2
  have hP : va_P D vwCl [(rZ, .inr (1, [.ref aZ, .int (nI nZ)])), (aZ, .inl (I, NZ, .inl fZ))] H := hP
  have hD : va_D A [(rZ, .inr (1, [.ref aZ, .int (nI nZ)])), (aZ, .inl (I, NZ, .inl fZ))] := hD
  subst hw_2
  refine lv_iconst (v := (-1)) hx hb dX1_has_5 (by decide) ?_
  refine lv_icmp_eq (tgt := 13) hx hb dX1_has_6 (by decide) (fun c_6 => ?_) (fun c_6 => ?_)
  · --6T
    refine lv_iconst (v := 0) hx hb dX1_has_13 (by decide) ?_
    refine m_zret () hx hb hr hlocks hP hD hS dX1_has_14 (by first | exact Nat.le_of_ble_eq_true rfl | omega) (by first | exact Nat.le_of_ble_eq_true rfl | omega) (by rfl) ?_
    rw [(iO_m1 (rF_lt (by omega))).mp c_6]; rfl
  · --6F
    refine lv_iconst (v := 1) hx hb dX1_has_9 (by decide) ?_
    refine lv_goto (tgt := 14) hx hb dX1_has_10 (by decide) ?_
    refine m_zret () hx hb hr hlocks hP hD hS dX1_has_14 (by first | exact Nat.le_of_ble_eq_true rfl | omega) (by first | exact Nat.le_of_ble_eq_true rfl | omega) (by rfl) ?_
    cases h : rF fZ vZ nZ with
        | none => exact absurd (by rw [h]; rfl) c_6
        | some jZ => rfl

set_option maxHeartbeats 4000000 in
set_option maxRecDepth 100000 in
theorem c_X1_at (l : Launch) (D : va_G) (I J : ClassId) (sz : Nat) (rZ : Nat) (aZ : Nat) (nZ : Nat) (NZ : Nat) (fZ : Nat → Int32) (jZ : Nat) (hj : jZ < nZ) (hn : nZ ≤ NZ) (hN : NZ ≤ 1000) : mCi l yX1_at wsX1_at 1 21 0 0 D I J [.ref rZ, .int (nI jZ)] [(rZ, .inr (1, [.ref aZ, .int (nI nZ)])), (aZ, .inl (I, NZ, .inl fZ))] sz (fun (x : Int32) (u : Unit) => x = (fZ jZ)) (fun (u : Unit) => [(rZ, .inr (1, [.ref aZ, .int (nI nZ)])), (aZ, .inl (I, NZ, .inl fZ))]) := by
  refine m_ofi (cc := cX1_at) (maxL := 2) (ret := (some .int)) (by decide) rfl (Nat.le_of_ble_eq_true rfl) ?_
  intro p e s m args below meth c A ls hx hb hr hlocks hml hts hown hin hK hP hD hA hS hl
  have hl : lv_has ls 2 [(0, .ref rZ), (1, .int (nI jZ))] := hl
  have hP : va_P D vwCl [(rZ, .inr (1, [.ref aZ, .int (nI nZ)])), (aZ, .inl (I, NZ, .inl fZ))] s.heap := hP
  have hD : va_D A [(rZ, .inr (1, [.ref aZ, .int (nI nZ)])), (aZ, .inl (I, NZ, .inl fZ))] := hD
  refine lv_aload_n hx hb dX1_at_0 rfl (lv_at hl 0 rfl) ?_
  refine lv_iload_n hx hb dX1_at_1 rfl (lv_at hl 1 rfl) ?_
  refine m_Vi (As := [.int (nI jZ)]) (wr := [(aZ, .inl (I, NZ, .inl fZ))]) (ws2 := fun _ => [(rZ, .inr (1, [.ref aZ, .int (nI nZ)])), (aZ, .inl (I, NZ, .inl fZ))]) ⟨hx, hb, hml, hown, hts⟩ hA hK hP hD hS hl.1 (c_X1_isPlace l D I J s.heap.size rZ aZ nZ (some jZ) (by intro k hk; cases hk; exact hj) (by omega)) (cwV 1 hts gX1_at_X1_isPlace rfl rfl rfl (by decide +kernel) ⟨Nat.le_of_ble_eq_true rfl, Nat.le_of_ble_eq_true rfl⟩) [0] [1] [1, 0] 0 1 rfl rfl rfl rfl rfl (by decide) (by decide) (by decide) (by decide) (fun _ => rfl) rfl rfl (Nat.le_of_ble_eq_true rfl) dX1_at_2 ⟨(by exact Nat.le_of_ble_eq_true rfl), (by exact Nat.le_of_ble_eq_true rfl)⟩ (fun r_2 u_2 H locs hw_2 hP hD hS => ?_)
  try dsimp only at hw_2
  have hP : va_P D vwCl [(rZ, .inr (1, [.ref aZ, .int (nI nZ)])), (aZ, .inl (I, NZ, .inl fZ))] H := hP
  have hD : va_D A [(rZ, .inr (1, [.ref aZ, .int (nI nZ)])), (aZ, .inl (I, NZ, .inl fZ))] := hD
  subst hw_2
  refine lv_if_eq (tgt := 17) hx hb dX1_at_5 (by decide) (fun c_5 => ?_) (fun c_5 => ?_)
  · --5T
    exact absurd (show (1 : Int32) = 0 from c_5) (by decide)
  · --5F
    refine lv_aload_n hx hb dX1_at_8 rfl (lv_at hl 0 rfl) ?_
    refine va_get (D := D) (ci := 1) (v := .ref aZ) (C := RX1) (T := TX1) (N := 2) hx hb hts (fun _ h => List.mem_cons_of_mem _ (List.mem_append_right _ h)) hown hK hP 0 rfl rfl 0 (by decide) (hts (.fieldLink RX1 15 "MapsByUse$Row" "numbers" "[I") (List.mem_of_getElem? (i := 1) (by decide +kernel))) (fun _ h9 => h9) rfl dX1_at_9 ?_
    refine lv_iload_n hx hb dX1_at_12 rfl (lv_at hl 1 rfl) ?_
    refine m_iald (D := D) (cl := vwCl) hx hb hK hP 1 0 (j := jZ) rfl rfl (by rfl) (by omega) (by omega) dX1_at_13 ?_
    refine lv_goto (tgt := 18) hx hb dX1_at_14 (by decide) ?_
    refine m_iret () hx hb hr hlocks hP hD hS dX1_at_18 (by first | exact Nat.le_of_ble_eq_true rfl | omega) (by first | exact Nat.le_of_ble_eq_true rfl | omega) ?_
    rfl

set_option maxHeartbeats 4000000 in
set_option maxRecDepth 100000 in
theorem c_X1_setAt (l : Launch) (D : va_G) (I J : ClassId) (sz : Nat) (rZ : Nat) (aZ : Nat) (nZ : Nat) (NZ : Nat) (fZ : Nat → Int32) (oZ : Option Nat) (vZ : Int32) (ho : ∀ jZ, oZ = some jZ → jZ < nZ) (hn : nZ ≤ NZ) (hN : NZ ≤ 1000) : mCv l yX1_setAt wsX1_setAt 1 21 0 0 D I J [.ref rZ, .int (iO oZ), .int vZ] [(rZ, .inr (1, [.ref aZ, .int (nI nZ)])), (aZ, .inl (I, NZ, .inl fZ))] sz (fun (u : Unit) => True) (fun (u : Unit) => [(rZ, .inr (1, [.ref aZ, .int (nI nZ)])), (aZ, .inl (I, NZ, .inl (setO fZ vZ oZ)))]) := by
  refine m_ofv (cc := cX1_setAt) (maxL := 3) (ret := none) (by decide) rfl (Nat.le_of_ble_eq_true rfl) ?_
  intro p e s m args below meth c A ls hx hb hr hlocks hml hts hown hin hK hP hD hA hS hl
  have hl : lv_has ls 3 [(0, .ref rZ), (1, .int (iO oZ)), (2, .int vZ)] := hl
  have hP : va_P D vwCl [(rZ, .inr (1, [.ref aZ, .int (nI nZ)])), (aZ, .inl (I, NZ, .inl fZ))] s.heap := hP
  have hD : va_D A [(rZ, .inr (1, [.ref aZ, .int (nI nZ)])), (aZ, .inl (I, NZ, .inl fZ))] := hD
  refine lv_aload_n hx hb dX1_setAt_0 rfl (lv_at hl 0 rfl) ?_
  refine lv_iload_n hx hb dX1_setAt_1 rfl (lv_at hl 1 rfl) ?_
  refine m_Vi (As := [.int (iO oZ)]) (wr := [(aZ, .inl (I, NZ, .inl fZ))]) (ws2 := fun _ => [(rZ, .inr (1, [.ref aZ, .int (nI nZ)])), (aZ, .inl (I, NZ, .inl fZ))]) ⟨hx, hb, hml, hown, hts⟩ hA hK hP hD hS hl.1 (c_X1_isPlace l D I J s.heap.size rZ aZ nZ oZ (by assumption) (by omega)) (cwV 1 hts gX1_setAt_X1_isPlace rfl rfl rfl (by decide +kernel) ⟨Nat.le_of_ble_eq_true rfl, Nat.le_of_ble_eq_true rfl⟩) [0] [1] [1, 0] 0 1 rfl rfl rfl rfl rfl (by decide) (by decide) (by decide) (by decide) (fun _ => rfl) rfl rfl (Nat.le_of_ble_eq_true rfl) dX1_setAt_2 ⟨(by exact Nat.le_of_ble_eq_true rfl), (by exact Nat.le_of_ble_eq_true rfl)⟩ (fun r_2 u_2 H locs hw_2 hP hD hS => ?_)
  try dsimp only at hw_2
  have hP : va_P D vwCl [(rZ, .inr (1, [.ref aZ, .int (nI nZ)])), (aZ, .inl (I, NZ, .inl fZ))] H := hP
  have hD : va_D A [(rZ, .inr (1, [.ref aZ, .int (nI nZ)])), (aZ, .inl (I, NZ, .inl fZ))] := hD
  subst hw_2
  refine lv_if_eq (tgt := 15) hx hb dX1_setAt_5 (by decide) (fun c_5 => ?_) (fun c_5 => ?_)
  · --5T
    obtain rfl := o_none (bI0.mp c_5)
    refine m_vret () hx hb hr hlocks hP hD hS dX1_setAt_15 (by first | exact Nat.le_of_ble_eq_true rfl | omega) (by first | exact Nat.le_of_ble_eq_true rfl | omega) ?_
    trivial
  · --5F
    obtain ⟨jZ, rfl⟩ := o_some (bI1 c_5)
    have hj := ho jZ rfl
    refine lv_aload_n hx hb dX1_setAt_8 rfl (lv_at hl 0 rfl) ?_
    refine va_get (D := D) (ci := 1) (v := .ref aZ) (C := RX1) (T := TX1) (N := 2) hx hb hts (fun _ h => List.mem_cons_of_mem _ (List.mem_append_right _ h)) hown hK hP 0 rfl rfl 0 (by decide) (hts (.fieldLink RX1 15 "MapsByUse$Row" "numbers" "[I") (List.mem_of_getElem? (i := 1) (by decide +kernel))) (fun _ h9 => h9) rfl dX1_setAt_9 ?_
    refine lv_iload_n hx hb dX1_setAt_12 rfl (lv_at hl 1 rfl) ?_
    refine lv_iload_n hx hb dX1_setAt_13 rfl (lv_at hl 2 rfl) ?_
    refine m_iast (D := D) (cl := vwCl) hx hb hK hP hD hS 1 0 (j := jZ) rfl rfl (by rfl) (by omega) (by omega) dX1_setAt_14 (fun H locs hP hD hS => ?_)
    have hP : va_P D vwCl [(rZ, .inr (1, [.ref aZ, .int (nI nZ)])), (aZ, .inl (I, NZ, .inl (upd fZ jZ vZ)))] H := hP
    have hD : va_D A [(rZ, .inr (1, [.ref aZ, .int (nI nZ)])), (aZ, .inl (I, NZ, .inl (upd fZ jZ vZ)))] := hD
    refine m_vret () hx hb hr hlocks hP hD hS dX1_setAt_15 (by first | exact Nat.le_of_ble_eq_true rfl | omega) (by first | exact Nat.le_of_ble_eq_true rfl | omega) ?_
    trivial

set_option maxHeartbeats 4000000 in
set_option maxRecDepth 100000 in
theorem c_X1_append (l : Launch) (D : va_G) (I J : ClassId) (sz : Nat) (rZ : Nat) (aZ : Nat) (nZ : Nat) (NZ : Nat) (fZ : Nat → Int32) (vZ : Int32) (hlt : nZ < NZ) (hN : NZ ≤ 1000) : mCv l yX1_append wsX1_append 0 0 0 0 D I J [.ref rZ, .int vZ] [(rZ, .inr (1, [.ref aZ, .int (nI nZ)])), (aZ, .inl (I, NZ, .inl fZ))] sz (fun (u : Unit) => True) (fun (u : Unit) => [(rZ, .inr (1, [.ref aZ, .int (nI (nZ + 1))])), (aZ, .inl (I, NZ, .inl (upd fZ nZ vZ)))]) := by
  refine m_ofv (cc := cX1_append) (maxL := 2) (ret := none) (by decide) rfl (Nat.le_of_ble_eq_true rfl) ?_
  intro p e s m args below meth c A ls hx hb hr hlocks hml hts hown hin hK hP hD hA hS hl
  have hl : lv_has ls 2 [(0, .ref rZ), (1, .int vZ)] := hl
  have hP : va_P D vwCl [(rZ, .inr (1, [.ref aZ, .int (nI nZ)])), (aZ, .inl (I, NZ, .inl fZ))] s.heap := hP
  have hD : va_D A [(rZ, .inr (1, [.ref aZ, .int (nI nZ)])), (aZ, .inl (I, NZ, .inl fZ))] := hD
  refine lv_aload_n hx hb dX1_append_0 rfl (lv_at hl 0 rfl) ?_
  refine va_get (D := D) (ci := 1) (v := .int (nI nZ)) (C := RX1) (T := TX1) (N := 2) hx hb hts (fun _ h => List.mem_cons_of_mem _ (List.mem_append_right _ h)) hown hK hP 0 rfl rfl 1 (by decide) (hts (.fieldLink RX1 21 "MapsByUse$Row" "inUse" "I") (List.mem_of_getElem? (i := 1) (by decide +kernel))) (fun _ h9 => h9) rfl dX1_append_1 ?_
  refine lv_aload_n hx hb dX1_append_4 rfl (lv_at hl 0 rfl) ?_
  refine va_get (D := D) (ci := 1) (v := .ref aZ) (C := RX1) (T := TX1) (N := 2) hx hb hts (fun _ h => List.mem_cons_of_mem _ (List.mem_append_right _ h)) hown hK hP 0 rfl rfl 0 (by decide) (hts (.fieldLink RX1 15 "MapsByUse$Row" "numbers" "[I") (List.mem_of_getElem? (i := 2) (by decide +kernel))) (fun _ h9 => h9) rfl dX1_append_5 ?_
  refine va_alen (D := D) (cl := vwCl) hx hb hK hP 1 0 (v := nI NZ) rfl rfl rfl dX1_append_8 ?_
  refine lv_icmp_ge (tgt := 32) hx hb dX1_append_9 (by decide) (fun c_9 => ?_) (fun c_9 => ?_)
  · --9T
    exact absurd c_9 (nI_ge hlt (by omega))
  · --9F
    refine lv_aload_n hx hb dX1_append_12 rfl (lv_at hl 0 rfl) ?_
    refine va_get (D := D) (ci := 1) (v := .ref aZ) (C := RX1) (T := TX1) (N := 2) hx hb hts (fun _ h => List.mem_cons_of_mem _ (List.mem_append_right _ h)) hown hK hP 0 rfl rfl 0 (by decide) (hts (.fieldLink RX1 15 "MapsByUse$Row" "numbers" "[I") (List.mem_of_getElem? (i := 2) (by decide +kernel))) (fun _ h9 => h9) rfl dX1_append_13 ?_
    refine lv_aload_n hx hb dX1_append_16 rfl (lv_at hl 0 rfl) ?_
    refine va_get (D := D) (ci := 1) (v := .int (nI nZ)) (C := RX1) (T := TX1) (N := 2) hx hb hts (fun _ h => List.mem_cons_of_mem _ (List.mem_append_right _ h)) hown hK hP 0 rfl rfl 1 (by decide) (hts (.fieldLink RX1 21 "MapsByUse$Row" "inUse" "I") (List.mem_of_getElem? (i := 1) (by decide +kernel))) (fun _ h9 => h9) rfl dX1_append_17 ?_
    refine lv_iload_n hx hb dX1_append_20 rfl (lv_at hl 1 rfl) ?_
    refine m_iast (D := D) (cl := vwCl) hx hb hK hP hD hS 1 0 (j := nZ) rfl rfl (by rfl) (by omega) (by omega) dX1_append_21 (fun H locs hP hD hS => ?_)
    have hP : va_P D vwCl [(rZ, .inr (1, [.ref aZ, .int (nI nZ)])), (aZ, .inl (I, NZ, .inl (upd fZ nZ vZ)))] H := hP
    have hD : va_D A [(rZ, .inr (1, [.ref aZ, .int (nI nZ)])), (aZ, .inl (I, NZ, .inl (upd fZ nZ vZ)))] := hD
    refine lv_aload_n hx hb dX1_append_22 rfl (lv_at hl 0 rfl) ?_
    refine lv_dup hx hb dX1_append_23 rfl ?_
    refine va_get (D := D) (ci := 1) (v := .int (nI nZ)) (C := RX1) (T := TX1) (N := 2) hx hb hts (fun _ h => List.mem_cons_of_mem _ (List.mem_append_right _ h)) hown hK hP 0 rfl rfl 1 (by decide) (hts (.fieldLink RX1 21 "MapsByUse$Row" "inUse" "I") (List.mem_of_getElem? (i := 1) (by decide +kernel))) (fun _ h9 => h9) rfl dX1_append_24 ?_
    refine lv_iconst (v := 1) hx hb dX1_append_27 (by decide) ?_
    refine lv_iadd hx hb dX1_append_28 ?_
    refine m_topi (y := (nI (nZ + 1))) (by exact nI_1 nZ) ?_
    refine va_put (D := D) (ci := 1) (v := .int (nI (nZ + 1))) (ty := .int) (C := RX1) (T := TX1) (N := 2) hx hb hts (fun _ h => List.mem_cons_of_mem _ (List.mem_append_right _ h)) tyX1 tyX1_ok nmX1 hown hK hP hD hS 0 rfl rfl 1 (by decide) (hts (.fieldLink RX1 21 "MapsByUse$Row" "inUse" "I") (List.mem_of_getElem? (i := 1) (by decide +kernel))) (fun _ h9 => h9) rfl (by decide +kernel) rfl rfl (Nat.le_of_ble_eq_true rfl) dX1_append_29 (fun H locs hP hD hS => ?_)
    have hP : va_P D vwCl [(rZ, .inr (1, [.ref aZ, .int (nI (nZ + 1))])), (aZ, .inl (I, NZ, .inl (upd fZ nZ vZ)))] H := hP
    have hD : va_D A [(rZ, .inr (1, [.ref aZ, .int (nI (nZ + 1))])), (aZ, .inl (I, NZ, .inl (upd fZ nZ vZ)))] := hD
    refine m_vret () hx hb hr hlocks hP hD hS dX1_append_32 (by first | exact Nat.le_of_ble_eq_true rfl | omega) (by first | exact Nat.le_of_ble_eq_true rfl | omega) ?_
    trivial

set_option maxHeartbeats 4000000 in
set_option maxRecDepth 100000 in
theorem c_X1_cutOut (l : Launch) (D : va_G) (I J : ClassId) (sz : Nat) (rZ : Nat) (aZ : Nat) (nZ : Nat) (NZ : Nat) (fZ : Nat → Int32) (oZ : Option Nat) (ho : ∀ jZ, oZ = some jZ → jZ < nZ) (hn : nZ ≤ NZ) (hN : NZ ≤ 1000) : mCv l yX1_cutOut wsX1_cutOut 1 21 0 0 D I J [.ref rZ, .int (iO oZ)] [(rZ, .inr (1, [.ref aZ, .int (nI nZ)])), (aZ, .inl (I, NZ, .inl fZ))] sz (fun (u : Unit) => True) (fun (u : Unit) => [(rZ, .inr (1, [.ref aZ, .int (nI (delN nZ oZ))])), (aZ, .inl (I, NZ, .inl (delF fZ nZ oZ)))]) := by
  refine m_ofv (cc := cX1_cutOut) (maxL := 2) (ret := none) (by decide) rfl (Nat.le_of_ble_eq_true rfl) ?_
  intro p e s m args below meth c A ls hx hb hr hlocks hml hts hown hin hK hP hD hA hS hl
  have hl : lv_has ls 2 [(0, .ref rZ), (1, .int (iO oZ))] := hl
  have hP : va_P D vwCl [(rZ, .inr (1, [.ref aZ, .int (nI nZ)])), (aZ, .inl (I, NZ, .inl fZ))] s.heap := hP
  have hD : va_D A [(rZ, .inr (1, [.ref aZ, .int (nI nZ)])), (aZ, .inl (I, NZ, .inl fZ))] := hD
  refine lv_aload_n hx hb dX1_cutOut_0 rfl (lv_at hl 0 rfl) ?_
  refine lv_iload_n hx hb dX1_cutOut_1 rfl (lv_at hl 1 rfl) ?_
  refine m_Vi (As := [.int (iO oZ)]) (wr := [(aZ, .inl (I, NZ, .inl fZ))]) (ws2 := fun _ => [(rZ, .inr (1, [.ref aZ, .int (nI nZ)])), (aZ, .inl (I, NZ, .inl fZ))]) ⟨hx, hb, hml, hown, hts⟩ hA hK hP hD hS hl.1 (c_X1_isPlace l D I J s.heap.size rZ aZ nZ oZ (by assumption) (by omega)) (cwV 1 hts gX1_cutOut_X1_isPlace rfl rfl rfl (by decide +kernel) ⟨Nat.le_of_ble_eq_true rfl, Nat.le_of_ble_eq_true rfl⟩) [0] [1] [1, 0] 0 1 rfl rfl rfl rfl rfl (by decide) (by decide) (by decide) (by decide) (fun _ => rfl) rfl rfl (Nat.le_of_ble_eq_true rfl) dX1_cutOut_2 ⟨(by exact Nat.le_of_ble_eq_true rfl), (by exact Nat.le_of_ble_eq_true rfl)⟩ (fun r_2 u_2 H locs hw_2 hP hD hS => ?_)
  try dsimp only at hw_2
  have hP : va_P D vwCl [(rZ, .inr (1, [.ref aZ, .int (nI nZ)])), (aZ, .inl (I, NZ, .inl fZ))] H := hP
  have hD : va_D A [(rZ, .inr (1, [.ref aZ, .int (nI nZ)])), (aZ, .inl (I, NZ, .inl fZ))] := hD
  subst hw_2
  refine lv_if_eq (tgt := 39) hx hb dX1_cutOut_5 (by decide) (fun c_5 => ?_) (fun c_5 => ?_)
  · --5T
    obtain rfl := o_none (bI0.mp c_5)
    refine m_vret () hx hb hr hlocks hP hD hS dX1_cutOut_39 (by first | exact Nat.le_of_ble_eq_true rfl | omega) (by first | exact Nat.le_of_ble_eq_true rfl | omega) ?_
    trivial
  · --5F
    obtain ⟨jZ, rfl⟩ := o_some (bI1 c_5)
    have hj := ho jZ rfl
    refine lv_aload_n hx hb dX1_cutOut_8 rfl (lv_at hl 0 rfl) ?_
    refine lv_dup hx hb dX1_cutOut_9 rfl ?_
    refine va_get (D := D) (ci := 1) (v := .int (nI nZ)) (C := RX1) (T := TX1) (N := 2) hx hb hts (fun _ h => List.mem_cons_of_mem _ (List.mem_append_right _ h)) hown hK hP 0 rfl rfl 1 (by decide) (hts (.fieldLink RX1 21 "MapsByUse$Row" "inUse" "I") (List.mem_of_getElem? (i := 1) (by decide +kernel))) (fun _ h9 => h9) rfl dX1_cutOut_10 ?_
    refine lv_iconst (v := 1) hx hb dX1_cutOut_13 (by decide) ?_
    refine lv_isub hx hb dX1_cutOut_14 ?_
    refine m_topi (y := (nI (nZ - 1))) (by exact pk_sub (a := nZ) (b := 1) (by omega)) ?_
    refine va_put (D := D) (ci := 1) (v := .int (nI (nZ - 1))) (ty := .int) (C := RX1) (T := TX1) (N := 2) hx hb hts (fun _ h => List.mem_cons_of_mem _ (List.mem_append_right _ h)) tyX1 tyX1_ok nmX1 hown hK hP hD hS 0 rfl rfl 1 (by decide) (hts (.fieldLink RX1 21 "MapsByUse$Row" "inUse" "I") (List.mem_of_getElem? (i := 1) (by decide +kernel))) (fun _ h9 => h9) rfl (by decide +kernel) rfl rfl (Nat.le_of_ble_eq_true rfl) dX1_cutOut_15 (fun H locs hP hD hS => ?_)
    have hP : va_P D vwCl [(rZ, .inr (1, [.ref aZ, .int (nI (nZ - 1))])), (aZ, .inl (I, NZ, .inl fZ))] H := hP
    have hD : va_D A [(rZ, .inr (1, [.ref aZ, .int (nI (nZ - 1))])), (aZ, .inl (I, NZ, .inl fZ))] := hD
    refine lv_aload_n hx hb dX1_cutOut_18 rfl (lv_at hl 0 rfl) ?_
    refine va_get (D := D) (ci := 1) (v := .ref aZ) (C := RX1) (T := TX1) (N := 2) hx hb hts (fun _ h => List.mem_cons_of_mem _ (List.mem_append_right _ h)) hown hK hP 0 rfl rfl 0 (by decide) (hts (.fieldLink RX1 15 "MapsByUse$Row" "numbers" "[I") (List.mem_of_getElem? (i := 2) (by decide +kernel))) (fun _ h9 => h9) rfl dX1_cutOut_19 ?_
    refine lv_iload_n hx hb dX1_cutOut_22 rfl (lv_at hl 1 rfl) ?_
    refine lv_iconst (v := 1) hx hb dX1_cutOut_23 (by decide) ?_
    refine lv_iadd hx hb dX1_cutOut_24 ?_
    refine m_topi (y := (nI (jZ + 1))) (by exact nI_1 jZ) ?_
    refine lv_aload_n hx hb dX1_cutOut_25 rfl (lv_at hl 0 rfl) ?_
    refine va_get (D := D) (ci := 1) (v := .ref aZ) (C := RX1) (T := TX1) (N := 2) hx hb hts (fun _ h => List.mem_cons_of_mem _ (List.mem_append_right _ h)) hown hK hP 0 rfl rfl 0 (by decide) (hts (.fieldLink RX1 15 "MapsByUse$Row" "numbers" "[I") (List.mem_of_getElem? (i := 2) (by decide +kernel))) (fun _ h9 => h9) rfl dX1_cutOut_26 ?_
    refine lv_iload_n hx hb dX1_cutOut_29 rfl (lv_at hl 1 rfl) ?_
    refine lv_aload_n hx hb dX1_cutOut_30 rfl (lv_at hl 0 rfl) ?_
    refine va_get (D := D) (ci := 1) (v := .int (nI (nZ - 1))) (C := RX1) (T := TX1) (N := 2) hx hb hts (fun _ h => List.mem_cons_of_mem _ (List.mem_append_right _ h)) hown hK hP 0 rfl rfl 1 (by decide) (hts (.fieldLink RX1 21 "MapsByUse$Row" "inUse" "I") (List.mem_of_getElem? (i := 1) (by decide +kernel))) (fun _ h9 => h9) rfl dX1_cutOut_31 ?_
    refine lv_iload_n hx hb dX1_cutOut_34 rfl (lv_at hl 1 rfl) ?_
    refine lv_isub hx hb dX1_cutOut_35 ?_
    refine m_topi (y := (nI (nZ - 1 - jZ))) (by exact pk_sub (by omega)) ?_
    refine m_copy (D := D) (cl := vwCl) hx hb (hml.trans hl.1.symm) hown (hts (.methodLink RX1 33 arraycopyName) (List.mem_of_getElem? (i := 3) (by decide +kernel))) (hts (.native arraycopyName) (List.mem_of_getElem? (i := 4) (by decide +kernel))) (hts (.static arraycopyName) (List.mem_of_getElem? (i := 5) (by decide +kernel))) (hts (.initialized "java/lang/System") (List.mem_of_getElem? (i := 6) (by decide +kernel))) hK hP hD hS 1 1 (js := (jZ + 1)) (jd := jZ) (jn := (nZ - 1 - jZ)) rfl rfl (by exact ⟨rfl, rfl, rfl⟩) (by omega) (Nat.le_of_ble_eq_true rfl) (Nat.le_of_ble_eq_true rfl) dX1_cutOut_36 (fun H locs hP hD hS => ?_)
    have hP : va_P D vwCl [(rZ, .inr (1, [.ref aZ, .int (nI (nZ - 1))])), (aZ, .inl (I, NZ, .inl (va_cpy fZ fZ (jZ + 1) jZ (nZ - 1 - jZ))))] H := hP
    have hD : va_D A [(rZ, .inr (1, [.ref aZ, .int (nI (nZ - 1))])), (aZ, .inl (I, NZ, .inl (va_cpy fZ fZ (jZ + 1) jZ (nZ - 1 - jZ))))] := hD
    refine m_vret () hx hb hr hlocks hP hD hS dX1_cutOut_39 (by first | exact Nat.le_of_ble_eq_true rfl | omega) (by first | exact Nat.le_of_ble_eq_true rfl | omega) ?_
    trivial

set_option maxHeartbeats 4000000 in
set_option maxRecDepth 100000 in
theorem c_X1_empty (l : Launch) (D : va_G) (I J : ClassId) (sz : Nat) (rZ : Nat) (aZ : Nat) (nZ : Nat)  : mCv l yX1_empty wsX1_empty 0 0 0 0 D I J [.ref rZ] [(rZ, .inr (1, [.ref aZ, .int (nI nZ)]))] sz (fun (u : Unit) => True) (fun (u : Unit) => [(rZ, .inr (1, [.ref aZ, .int (nI 0)]))]) := by
  refine m_ofv (cc := cX1_empty) (maxL := 1) (ret := none) (by decide) rfl (Nat.le_of_ble_eq_true rfl) ?_
  intro p e s m args below meth c A ls hx hb hr hlocks hml hts hown hin hK hP hD hA hS hl
  have hl : lv_has ls 1 [(0, .ref rZ)] := hl
  have hP : va_P D vwCl [(rZ, .inr (1, [.ref aZ, .int (nI nZ)]))] s.heap := hP
  have hD : va_D A [(rZ, .inr (1, [.ref aZ, .int (nI nZ)]))] := hD
  refine lv_aload_n hx hb dX1_empty_0 rfl (lv_at hl 0 rfl) ?_
  refine lv_iconst (v := 0) hx hb dX1_empty_1 (by decide) ?_
  refine m_topi (y := (nI 0)) (by rfl) ?_
  refine va_put (D := D) (ci := 1) (v := .int (nI 0)) (ty := .int) (C := RX1) (T := TX1) (N := 2) hx hb hts (fun _ h => List.mem_cons_of_mem _ (List.mem_append_right _ h)) tyX1 tyX1_ok nmX1 hown hK hP hD hS 0 rfl rfl 1 (by decide) (hts (.fieldLink RX1 21 "MapsByUse$Row" "inUse" "I") (List.mem_of_getElem? (i := 1) (by decide +kernel))) (fun _ h9 => h9) rfl (by decide +kernel) rfl rfl (Nat.le_of_ble_eq_true rfl) dX1_empty_2 (fun H locs hP hD hS => ?_)
  have hP : va_P D vwCl [(rZ, .inr (1, [.ref aZ, .int (nI 0)]))] H := hP
  have hD : va_D A [(rZ, .inr (1, [.ref aZ, .int (nI 0)]))] := hD
  refine m_vret () hx hb hr hlocks hP hD hS dX1_empty_5 (by first | exact Nat.le_of_ble_eq_true rfl | omega) (by first | exact Nat.le_of_ble_eq_true rfl | omega) ?_
  trivial

set_option maxHeartbeats 4000000 in
set_option maxRecDepth 100000 in
theorem c_X1_init (l : Launch) (D : va_G) (I J : ClassId) (sz : Nat) (rZ : Nat) (b0Z : Nat) (hbd : b0Z ≤ 1000) : mCv l yX1_init wsX1_init 1 14 1 b0Z D I J [.ref rZ, .int (nI b0Z)] [(rZ, .inr (1, [.null, .int 0]))] sz (fun (u : Nat) => True) (fun (u : Nat) => [(rZ, .inr (1, [.ref u, .int (nI 0)])), (u, .inl (I, b0Z, .inl (fun _ => 0)))]) := by
  refine m_ofv (cc := cX1_init) (maxL := 2) (ret := none) (by decide) rfl (Nat.le_of_ble_eq_true rfl) ?_
  intro p e s m args below meth c A ls hx hb hr hlocks hml hts hown hin hK hP hD hA hS hl
  have hl : lv_has ls 2 [(0, .ref rZ), (1, .int (nI b0Z))] := hl
  have hP : va_P D vwCl [(rZ, .inr (1, [.null, .int 0]))] s.heap := hP
  have hD : va_D A [(rZ, .inr (1, [.null, .int 0]))] := hD
  refine lv_aload_n hx hb dX1_init_0 rfl (lv_at hl 0 rfl) ?_
  refine W.objInit hx hb hown (hts (.methodLink RX1 3 objectInit) (List.mem_of_getElem? (i := 1) (by decide +kernel))) (hts (.instanceMethod objectInit) (List.mem_of_getElem? (i := 2) (by decide +kernel))) (hts (.code objectInit ⟨#[0xb1]⟩ 1 none) (List.mem_of_getElem? (i := 3) (by decide +kernel))) rfl (by rw [hml]; exact hl.1) rfl dX1_init_1 (Nat.le_of_ble_eq_true rfl) (Nat.le_of_ble_eq_true rfl) ?_
  refine W.eq (g2 := F0 m 4 ls []) rfl ?_
  refine lv_aload_n hx hb dX1_init_4 rfl (lv_at hl 0 rfl) ?_
  refine lv_iload_n hx hb dX1_init_5 rfl (lv_at hl 1 rfl) ?_
  refine lv_iconst (v := 0) hx hb dX1_init_6 (by decide) ?_
  refine va_mmax hx hb (hml.trans hl.1.symm) hown (hts (.methodLink RX1 9 Lib.Math.max.name) (List.mem_of_getElem? (i := 4) (by decide +kernel))) (hts (.static Lib.Math.max.name) (List.mem_of_getElem? (i := 5) (by decide +kernel))) (hts (.initialized "java/lang/Math") (List.mem_of_getElem? (i := 6) (by decide +kernel))) (hts (.code Lib.Math.max.name Lib.Math.max.code 2 (some .int)) (List.mem_of_getElem? (i := 7) (by decide +kernel))) (Nat.le_of_ble_eq_true rfl) (Nat.le_of_ble_eq_true rfl) (by exact Nat.zero_le _) (by exact Nat.zero_le _) dX1_init_7 ?_
  refine m_topi (y := (nI b0Z)) (by exact if_neg (nI_pos (by omega))) ?_
  refine m_newaI (D := D) (cl := vwCl) hx hb (hts (.arrayClass .int) (List.mem_of_getElem? (i := 8) (by decide +kernel))) hK hP hD hS hA (j := b0Z) (by rfl) (by omega) (by exact Nat.le_of_ble_eq_true rfl) (by show 0 + b0Z ≤ b0Z; omega) dX1_init_10 (fun q10 H hP hD hS => ?_)
  have hP : va_P D vwCl [(rZ, .inr (1, [.null, .int 0])), (q10, .inl (I, b0Z, .inl (fun _ => 0)))] H := hP
  have hD : va_D A [(rZ, .inr (1, [.null, .int 0])), (q10, .inl (I, b0Z, .inl (fun _ => 0)))] := hD
  refine va_putF (D := D) (ci := 1) (v := .ref q10) (ty := (.array .int)) (C := RX1) (T := TX1) (N := 2) hx hb hts (fun _ h => List.mem_cons_of_mem _ (List.mem_append_right _ h)) tyX1 tyX1_ok nmX1 hown hK hP hD hS 0 rfl rfl 0 (by decide) (hts (.fieldLink RX1 15 "MapsByUse$Row" "numbers" "[I") (List.mem_of_getElem? (i := 9) (by decide +kernel))) (fun _ h9 => h9) rfl hin rfl (by decide +kernel) rfl rfl (Nat.le_of_ble_eq_true rfl) dX1_init_12 (fun H locs hP hD hS => ?_)
  have hP : va_P D vwCl [(rZ, .inr (1, [.ref q10, .int 0])), (q10, .inl (I, b0Z, .inl (fun _ => 0)))] H := hP
  have hD : va_D A [(rZ, .inr (1, [.ref q10, .int 0])), (q10, .inl (I, b0Z, .inl (fun _ => 0)))] := hD
  refine lv_aload_n hx hb dX1_init_15 rfl (lv_at hl 0 rfl) ?_
  refine lv_iconst (v := 0) hx hb dX1_init_16 (by decide) ?_
  refine m_topi (y := (nI 0)) (by rfl) ?_
  refine va_put (D := D) (ci := 1) (v := .int (nI 0)) (ty := .int) (C := RX1) (T := TX1) (N := 2) hx hb hts (fun _ h => List.mem_cons_of_mem _ (List.mem_append_right _ h)) tyX1 tyX1_ok nmX1 hown hK hP hD hS 0 rfl rfl 1 (by decide) (hts (.fieldLink RX1 21 "MapsByUse$Row" "inUse" "I") (List.mem_of_getElem? (i := 10) (by decide +kernel))) (fun _ h9 => h9) rfl (by decide +kernel) rfl rfl (Nat.le_of_ble_eq_true rfl) dX1_init_17 (fun H locs hP hD hS => ?_)
  have hP : va_P D vwCl [(rZ, .inr (1, [.ref q10, .int (nI 0)])), (q10, .inl (I, b0Z, .inl (fun _ => 0)))] H := hP
  have hD : va_D A [(rZ, .inr (1, [.ref q10, .int (nI 0)])), (q10, .inl (I, b0Z, .inl (fun _ => 0)))] := hD
  refine m_vret q10 hx hb hr hlocks hP hD hS dX1_init_20 (by first | exact Nat.le_of_ble_eq_true rfl | omega) (by first | exact Nat.le_of_ble_eq_true rfl | omega) ?_
  trivial
