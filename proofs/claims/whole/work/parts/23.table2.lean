set_option maxHeartbeats 4000000 in
set_option maxRecDepth 100000 in
theorem c_X2_addToAll (l : Launch) (D : va_G) (I J : ClassId) (sz : Nat) (x : Nat) (tp : Nat) (cp : Nat) (mr : Nat) (sp : Nat) (ur : Nat) (rm : Int32) (us : Int32) (aw : Int32) (tk : Nat) (tka : Nat) (tv : Nat) (tva : Nat) (n : Nat) (f : Nat → Int32) (g : Nat → Int32) (more : Int32) (hn2 : n ≤ 200) : mCi l yX2_addToAll wsX2_addToAll 3 65 0 0 D I J [.ref x, .int more] [(x, .inr (2, [.ref tp, .ref cp, .ref mr, .ref sp, .ref ur, .int rm, .int us, .int aw])), (tp, .inr (0, [.ref tk, .ref tv])), (tk, .inr (1, [.ref tka, .int (nI n)])), (tka, .inl (I, 200, .inl f)), (tv, .inr (1, [.ref tva, .int (nI n)])), (tva, .inl (I, 200, .inl g))] sz (fun (x : Int32) (u : Unit) => x = (nI n)) (fun (u : Unit) => [(x, .inr (2, [.ref tp, .ref cp, .ref mr, .ref sp, .ref ur, .int rm, .int us, .int aw])), (tp, .inr (0, [.ref tk, .ref tv])), (tk, .inr (1, [.ref tka, .int (nI n)])), (tka, .inl (I, 200, .inl f)), (tv, .inr (1, [.ref tva, .int (nI n)])), (tva, .inl (I, 200, .inl (addF g more n)))]) := by
  refine m_ofi (cc := cX2_addToAll) (maxL := 3) (ret := (some .int)) (by decide) rfl (Nat.le_of_ble_eq_true rfl) ?_
  intro p e s m args below meth c A ls hx hb hr hlocks hml hts hown hin hK hP hD hA hS hl
  have hl : lv_has ls 3 [(0, .ref x), (1, .int more)] := hl
  have hP : va_P D vwCl [(x, .inr (2, [.ref tp, .ref cp, .ref mr, .ref sp, .ref ur, .int rm, .int us, .int aw])), (tp, .inr (0, [.ref tk, .ref tv])), (tk, .inr (1, [.ref tka, .int (nI n)])), (tka, .inl (I, 200, .inl f)), (tv, .inr (1, [.ref tva, .int (nI n)])), (tva, .inl (I, 200, .inl g))] s.heap := hP
  have hD : va_D A [(x, .inr (2, [.ref tp, .ref cp, .ref mr, .ref sp, .ref ur, .int rm, .int us, .int aw])), (tp, .inr (0, [.ref tk, .ref tv])), (tk, .inr (1, [.ref tka, .int (nI n)])), (tka, .inl (I, 200, .inl f)), (tv, .inr (1, [.ref tva, .int (nI n)])), (tva, .inl (I, 200, .inl g))] := hD
  refine lv_iconst (v := 0) hx hb dX2_addToAll_0 (by decide) ?_
  refine lv_istore_n (lv' := [(2, .int 0), (0, .ref x), (1, .int more)]) hx hb dX2_addToAll_1 rfl hl (by decide) rfl (fun ls hl => ?_)
  have loop_2 : ∀ (k_2 : Nat) (i : Nat) (x_2 : Int32) (ex_2 : x_2 = (nI i)) (hi : i ≤ n) (hm_ : n - i < k_2) (H : Heap) (locs : List Loc) (hP : va_P D vwCl [(x, .inr (2, [.ref tp, .ref cp, .ref mr, .ref sp, .ref ur, .int rm, .int us, .int aw])), (tp, .inr (0, [.ref tk, .ref tv])), (tk, .inr (1, [.ref tka, .int (nI n)])), (tka, .inl (I, 200, .inl f)), (tv, .inr (1, [.ref tva, .int (nI n)])), (tva, .inl (I, 200, .inl (addF g more i)))] H) (hD : va_D A [(x, .inr (2, [.ref tp, .ref cp, .ref mr, .ref sp, .ref ur, .int rm, .int us, .int aw])), (tp, .inr (0, [.ref tk, .ref tv])), (tk, .inr (1, [.ref tka, .int (nI n)])), (tka, .inl (I, 200, .inl f)), (tv, .inr (1, [.ref tva, .int (nI n)])), (tva, .inl (I, 200, .inl (addF g more i)))]) (hS : va_S A s.heap H locs) (ls : Array Slot) (hl : lv_has ls 3 [(0, .ref x), (1, .int more), (2, .int x_2)]), W p l e (mRm 3 65 0 0) s m args below meth c H locs 0 0 (MQ below (va_Qi (fun (x : Int32) (u : Unit) => x = (nI n)) (mB D (fun (u : Unit) => [(x, .inr (2, [.ref tp, .ref cp, .ref mr, .ref sp, .ref ur, .int rm, .int us, .int aw])), (tp, .inr (0, [.ref tk, .ref tv])), (tk, .inr (1, [.ref tka, .int (nI n)])), (tka, .inl (I, 200, .inl f)), (tv, .inr (1, [.ref tva, .int (nI n)])), (tva, .inl (I, 200, .inl (addF g more n)))]) A) A) args s 0 0 A) (F0 m 2 ls []) := by
    intro k_2
    induction k_2 with
    | zero => intro i x_2 ex_2 hi hm_; exact absurd hm_ (Nat.not_lt_zero _)
    | succ k_2 ih_2 =>
      intro i x_2 ex_2 hi hm_ H locs hP hD hS ls hl
      subst ex_2
      refine lv_iload_n hx hb dX2_addToAll_2 rfl (lv_at hl 2 rfl) ?_
      refine lv_aload_n hx hb dX2_addToAll_3 rfl (lv_at hl 0 rfl) ?_
      refine va_get (D := D) (ci := 2) (v := .ref tp) (C := RX2) (T := TX2) (N := 8) hx hb hts (fun _ h => List.mem_cons_of_mem _ (List.mem_append_left _ (List.mem_append_left _ (List.mem_append_right _ h)))) hown hK hP 0 rfl rfl 0 (by decide) (hts (.fieldLink RX2 14 "MapsByUse" "table" "LMapsByUse$Pairs;") (List.mem_of_getElem? (i := 1) (by decide +kernel))) (fun _ h9 => h9) rfl dX2_addToAll_4 ?_
      refine m_Vi (As := []) (wr := [(x, .inr (2, [.ref tp, .ref cp, .ref mr, .ref sp, .ref ur, .int rm, .int us, .int aw])), (tka, .inl (I, 200, .inl f)), (tv, .inr (1, [.ref tva, .int (nI n)])), (tva, .inl (I, 200, .inl (addF g more i)))]) (ws2 := fun _ => [(x, .inr (2, [.ref tp, .ref cp, .ref mr, .ref sp, .ref ur, .int rm, .int us, .int aw])), (tp, .inr (0, [.ref tk, .ref tv])), (tk, .inr (1, [.ref tka, .int (nI n)])), (tka, .inl (I, 200, .inl f)), (tv, .inr (1, [.ref tva, .int (nI n)])), (tva, .inl (I, 200, .inl (addF g more i)))]) ⟨hx, hb, hml, hown, hts⟩ hA hK hP hD hS hl.1 (c_X0_held l D I J H.size tp tk tka tv n ) (cwV 0 hts gX2_addToAll_X0_held rfl rfl rfl (by decide +kernel) ⟨Nat.le_of_ble_eq_true rfl, Nat.le_of_ble_eq_true rfl⟩) [1, 2] [0, 3, 4, 5] [0, 4, 5, 1, 2, 3] 1 0 rfl rfl rfl rfl rfl (by decide) (by decide) (by decide) (by decide) (fun _ => rfl) rfl rfl (Nat.le_of_ble_eq_true rfl) dX2_addToAll_7 ⟨(by exact Nat.le_of_ble_eq_true rfl), (by exact Nat.le_of_ble_eq_true rfl)⟩ (fun r_7 u_7 H locs hw_7 hP hD hS => ?_)
      try dsimp only at hw_7
      have hP : va_P D vwCl [(x, .inr (2, [.ref tp, .ref cp, .ref mr, .ref sp, .ref ur, .int rm, .int us, .int aw])), (tp, .inr (0, [.ref tk, .ref tv])), (tk, .inr (1, [.ref tka, .int (nI n)])), (tka, .inl (I, 200, .inl f)), (tv, .inr (1, [.ref tva, .int (nI n)])), (tva, .inl (I, 200, .inl (addF g more i)))] H := hP
      have hD : va_D A [(x, .inr (2, [.ref tp, .ref cp, .ref mr, .ref sp, .ref ur, .int rm, .int us, .int aw])), (tp, .inr (0, [.ref tk, .ref tv])), (tk, .inr (1, [.ref tka, .int (nI n)])), (tka, .inl (I, 200, .inl f)), (tv, .inr (1, [.ref tva, .int (nI n)])), (tva, .inl (I, 200, .inl (addF g more i)))] := hD
      subst hw_7
      refine lv_icmp_ge (tgt := 37) hx hb dX2_addToAll_10 (by decide) (fun c_10 => ?_) (fun c_10 => ?_)
      · --L210T
        have qq := (nI_leI (by omega) (by omega)).mp c_10
        have ee : i = n := by omega
        refine lv_aload_n hx hb dX2_addToAll_37 rfl (lv_at hl 0 rfl) ?_
        refine va_get (D := D) (ci := 2) (v := .ref tp) (C := RX2) (T := TX2) (N := 8) hx hb hts (fun _ h => List.mem_cons_of_mem _ (List.mem_append_left _ (List.mem_append_left _ (List.mem_append_right _ h)))) hown hK hP 0 rfl rfl 0 (by decide) (hts (.fieldLink RX2 14 "MapsByUse" "table" "LMapsByUse$Pairs;") (List.mem_of_getElem? (i := 1) (by decide +kernel))) (fun _ h9 => h9) rfl dX2_addToAll_38 ?_
        refine m_Vi (As := []) (wr := [(x, .inr (2, [.ref tp, .ref cp, .ref mr, .ref sp, .ref ur, .int rm, .int us, .int aw])), (tka, .inl (I, 200, .inl f)), (tv, .inr (1, [.ref tva, .int (nI n)])), (tva, .inl (I, 200, .inl (addF g more i)))]) (ws2 := fun _ => [(x, .inr (2, [.ref tp, .ref cp, .ref mr, .ref sp, .ref ur, .int rm, .int us, .int aw])), (tp, .inr (0, [.ref tk, .ref tv])), (tk, .inr (1, [.ref tka, .int (nI n)])), (tka, .inl (I, 200, .inl f)), (tv, .inr (1, [.ref tva, .int (nI n)])), (tva, .inl (I, 200, .inl (addF g more i)))]) ⟨hx, hb, hml, hown, hts⟩ hA hK hP hD hS hl.1 (c_X0_held l D I J H.size tp tk tka tv n ) (cwV 0 hts gX2_addToAll_X0_held rfl rfl rfl (by decide +kernel) ⟨Nat.le_of_ble_eq_true rfl, Nat.le_of_ble_eq_true rfl⟩) [1, 2] [0, 3, 4, 5] [0, 4, 5, 1, 2, 3] 1 0 rfl rfl rfl rfl rfl (by decide) (by decide) (by decide) (by decide) (fun _ => rfl) rfl rfl (Nat.le_of_ble_eq_true rfl) dX2_addToAll_41 ⟨(by exact Nat.le_of_ble_eq_true rfl), (by exact Nat.le_of_ble_eq_true rfl)⟩ (fun r_41 u_41 H locs hw_41 hP hD hS => ?_)
        try dsimp only at hw_41
        have hP : va_P D vwCl [(x, .inr (2, [.ref tp, .ref cp, .ref mr, .ref sp, .ref ur, .int rm, .int us, .int aw])), (tp, .inr (0, [.ref tk, .ref tv])), (tk, .inr (1, [.ref tka, .int (nI n)])), (tka, .inl (I, 200, .inl f)), (tv, .inr (1, [.ref tva, .int (nI n)])), (tva, .inl (I, 200, .inl (addF g more i)))] H := hP
        have hD : va_D A [(x, .inr (2, [.ref tp, .ref cp, .ref mr, .ref sp, .ref ur, .int rm, .int us, .int aw])), (tp, .inr (0, [.ref tk, .ref tv])), (tk, .inr (1, [.ref tka, .int (nI n)])), (tka, .inl (I, 200, .inl f)), (tv, .inr (1, [.ref tva, .int (nI n)])), (tva, .inl (I, 200, .inl (addF g more i)))] := hD
        subst hw_41
        have hEq : [(x, .inr (2, [.ref tp, .ref cp, .ref mr, .ref sp, .ref ur, .int rm, .int us, .int aw])), (tp, .inr (0, [.ref tk, .ref tv])), (tk, .inr (1, [.ref tka, .int (nI n)])), (tka, .inl (I, 200, .inl f)), (tv, .inr (1, [.ref tva, .int (nI n)])), (tva, .inl (I, 200, .inl (addF g more i)))] = ([(x, .inr (2, [.ref tp, .ref cp, .ref mr, .ref sp, .ref ur, .int rm, .int us, .int aw])), (tp, .inr (0, [.ref tk, .ref tv])), (tk, .inr (1, [.ref tka, .int (nI n)])), (tka, .inl (I, 200, .inl f)), (tv, .inr (1, [.ref tva, .int (nI n)])), (tva, .inl (I, 200, .inl (addF g more n)))] : va_W) := (by rw [ee])
        rw [hEq] at hP hD
        refine m_iret () hx hb hr hlocks hP hD hS dX2_addToAll_44 (by first | exact Nat.le_of_ble_eq_true rfl | omega) (by first | exact Nat.le_of_ble_eq_true rfl | omega) ?_
        rfl
      · --L210F
        have hlt : i < n := by
          rcases Nat.lt_or_ge i n with q | q
          · exact q
          · exact absurd ((nI_leI (by omega) (by omega)).mpr q) c_10
        refine lv_aload_n hx hb dX2_addToAll_13 rfl (lv_at hl 0 rfl) ?_
        refine va_get (D := D) (ci := 2) (v := .ref tp) (C := RX2) (T := TX2) (N := 8) hx hb hts (fun _ h => List.mem_cons_of_mem _ (List.mem_append_left _ (List.mem_append_left _ (List.mem_append_right _ h)))) hown hK hP 0 rfl rfl 0 (by decide) (hts (.fieldLink RX2 14 "MapsByUse" "table" "LMapsByUse$Pairs;") (List.mem_of_getElem? (i := 1) (by decide +kernel))) (fun _ h9 => h9) rfl dX2_addToAll_14 ?_
        refine lv_iload_n hx hb dX2_addToAll_17 rfl (lv_at hl 2 rfl) ?_
        refine lv_aload_n hx hb dX2_addToAll_18 rfl (lv_at hl 0 rfl) ?_
        refine va_get (D := D) (ci := 2) (v := .ref tp) (C := RX2) (T := TX2) (N := 8) hx hb hts (fun _ h => List.mem_cons_of_mem _ (List.mem_append_left _ (List.mem_append_left _ (List.mem_append_right _ h)))) hown hK hP 0 rfl rfl 0 (by decide) (hts (.fieldLink RX2 14 "MapsByUse" "table" "LMapsByUse$Pairs;") (List.mem_of_getElem? (i := 1) (by decide +kernel))) (fun _ h9 => h9) rfl dX2_addToAll_19 ?_
        refine lv_iload_n hx hb dX2_addToAll_22 rfl (lv_at hl 2 rfl) ?_
        refine m_Vi (As := [.int (nI i)]) (wr := [(x, .inr (2, [.ref tp, .ref cp, .ref mr, .ref sp, .ref ur, .int rm, .int us, .int aw])), (tk, .inr (1, [.ref tka, .int (nI n)])), (tka, .inl (I, 200, .inl f))]) (ws2 := fun _ => [(x, .inr (2, [.ref tp, .ref cp, .ref mr, .ref sp, .ref ur, .int rm, .int us, .int aw])), (tp, .inr (0, [.ref tk, .ref tv])), (tk, .inr (1, [.ref tka, .int (nI n)])), (tka, .inl (I, 200, .inl f)), (tv, .inr (1, [.ref tva, .int (nI n)])), (tva, .inl (I, 200, .inl (addF g more i)))]) ⟨hx, hb, hml, hown, hts⟩ hA hK hP hD hS hl.1 (c_X0_valueIn l D I J H.size tp tk tv tva n 200 (addF g more i) i (by assumption) (by omega) (by omega)) (cwV 1 hts gX2_addToAll_X0_valueIn rfl rfl rfl (by decide +kernel) ⟨Nat.le_of_ble_eq_true rfl, Nat.le_of_ble_eq_true rfl⟩) [1, 4, 5] [0, 2, 3] [0, 3, 1, 2, 4, 5] 1 0 rfl rfl rfl rfl rfl (by decide) (by decide) (by decide) (by decide) (fun _ => rfl) rfl rfl (Nat.le_of_ble_eq_true rfl) dX2_addToAll_23 ⟨(by exact Nat.le_of_ble_eq_true rfl), (by exact Nat.le_of_ble_eq_true rfl)⟩ (fun r_23 u_23 H locs hw_23 hP hD hS => ?_)
        try dsimp only at hw_23
        have hP : va_P D vwCl [(x, .inr (2, [.ref tp, .ref cp, .ref mr, .ref sp, .ref ur, .int rm, .int us, .int aw])), (tp, .inr (0, [.ref tk, .ref tv])), (tk, .inr (1, [.ref tka, .int (nI n)])), (tka, .inl (I, 200, .inl f)), (tv, .inr (1, [.ref tva, .int (nI n)])), (tva, .inl (I, 200, .inl (addF g more i)))] H := hP
        have hD : va_D A [(x, .inr (2, [.ref tp, .ref cp, .ref mr, .ref sp, .ref ur, .int rm, .int us, .int aw])), (tp, .inr (0, [.ref tk, .ref tv])), (tk, .inr (1, [.ref tka, .int (nI n)])), (tka, .inl (I, 200, .inl f)), (tv, .inr (1, [.ref tva, .int (nI n)])), (tva, .inl (I, 200, .inl (addF g more i)))] := hD
        subst hw_23
        refine lv_iload_n hx hb dX2_addToAll_26 rfl (lv_at hl 1 rfl) ?_
        refine lv_iadd hx hb dX2_addToAll_27 ?_
        refine m_topi (y := (g i + more)) (by rw [addF_i]) ?_
        refine m_Vv (As := [.int (nI i), .int (g i + more)]) (wr := [(x, .inr (2, [.ref tp, .ref cp, .ref mr, .ref sp, .ref ur, .int rm, .int us, .int aw])), (tk, .inr (1, [.ref tka, .int (nI n)])), (tka, .inl (I, 200, .inl f))]) (ws2 := fun _ => [(x, .inr (2, [.ref tp, .ref cp, .ref mr, .ref sp, .ref ur, .int rm, .int us, .int aw])), (tp, .inr (0, [.ref tk, .ref tv])), (tk, .inr (1, [.ref tka, .int (nI n)])), (tka, .inl (I, 200, .inl f)), (tv, .inr (1, [.ref tva, .int (nI n)])), (tva, .inl (I, 200, .inl (setO (addF g more i) (g i + more) (some i))))]) ⟨hx, hb, hml, hown, hts⟩ hA hK hP hD hS hl.1 (c_X0_setValue l D I J H.size tp tk tv tva n 200 (addF g more i) (some i) (g i + more) (by intro j hj; cases hj; exact hlt) (by omega) (by omega)) (cwV 2 hts gX2_addToAll_X0_setValue rfl rfl rfl (by decide +kernel) ⟨Nat.le_of_ble_eq_true rfl, Nat.le_of_ble_eq_true rfl⟩) [1, 4, 5] [0, 2, 3] [0, 3, 1, 2, 4, 5] 1 0 rfl rfl rfl rfl rfl (by decide) (by decide) (by decide) (by decide) (fun _ => rfl) rfl rfl (Nat.le_of_ble_eq_true rfl) dX2_addToAll_28 ⟨(by exact Nat.le_of_ble_eq_true rfl), (by exact Nat.le_of_ble_eq_true rfl)⟩ (fun u_28 H locs hw_28 hP hD hS => ?_)
        clear hw_28
        have hP : va_P D vwCl [(x, .inr (2, [.ref tp, .ref cp, .ref mr, .ref sp, .ref ur, .int rm, .int us, .int aw])), (tp, .inr (0, [.ref tk, .ref tv])), (tk, .inr (1, [.ref tka, .int (nI n)])), (tka, .inl (I, 200, .inl f)), (tv, .inr (1, [.ref tva, .int (nI n)])), (tva, .inl (I, 200, .inl (setO (addF g more i) (g i + more) (some i))))] H := hP
        have hD : va_D A [(x, .inr (2, [.ref tp, .ref cp, .ref mr, .ref sp, .ref ur, .int rm, .int us, .int aw])), (tp, .inr (0, [.ref tk, .ref tv])), (tk, .inr (1, [.ref tka, .int (nI n)])), (tka, .inl (I, 200, .inl f)), (tv, .inr (1, [.ref tva, .int (nI n)])), (tva, .inl (I, 200, .inl (setO (addF g more i) (g i + more) (some i))))] := hD
        refine lv_iinc (v := (nI (i + 1))) (lv' := [(2, .int (nI (i + 1))), (0, .ref x), (1, .int more)]) hx hb dX2_addToAll_31 hl (k := 2) rfl (by rw [← nI_1]; rfl) (by decide) rfl (fun ls hl => ?_)
        refine lv_goto (tgt := 2) hx hb dX2_addToAll_34 (by decide) ?_
        have hEq : [(x, .inr (2, [.ref tp, .ref cp, .ref mr, .ref sp, .ref ur, .int rm, .int us, .int aw])), (tp, .inr (0, [.ref tk, .ref tv])), (tk, .inr (1, [.ref tka, .int (nI n)])), (tka, .inl (I, 200, .inl f)), (tv, .inr (1, [.ref tva, .int (nI n)])), (tva, .inl (I, 200, .inl (setO (addF g more i) (g i + more) (some i))))] = ([(x, .inr (2, [.ref tp, .ref cp, .ref mr, .ref sp, .ref ur, .int rm, .int us, .int aw])), (tp, .inr (0, [.ref tk, .ref tv])), (tk, .inr (1, [.ref tka, .int (nI n)])), (tka, .inl (I, 200, .inl f)), (tv, .inr (1, [.ref tva, .int (nI n)])), (tva, .inl (I, 200, .inl (addF g more (i + 1))))] : va_W) := (by rw [← addF_s]; rfl)
        rw [hEq] at hP hD
        exact ih_2  (i + 1) _ (by rfl) (by first | assumption | omega | rfl) (by omega) _ _ hP hD hS ls (lv_sub hl [1, 2, 0] rfl)
  have hEq : [(x, .inr (2, [.ref tp, .ref cp, .ref mr, .ref sp, .ref ur, .int rm, .int us, .int aw])), (tp, .inr (0, [.ref tk, .ref tv])), (tk, .inr (1, [.ref tka, .int (nI n)])), (tka, .inl (I, 200, .inl f)), (tv, .inr (1, [.ref tva, .int (nI n)])), (tva, .inl (I, 200, .inl g))] = ([(x, .inr (2, [.ref tp, .ref cp, .ref mr, .ref sp, .ref ur, .int rm, .int us, .int aw])), (tp, .inr (0, [.ref tk, .ref tv])), (tk, .inr (1, [.ref tka, .int (nI n)])), (tka, .inl (I, 200, .inl f)), (tv, .inr (1, [.ref tva, .int (nI n)])), (tva, .inl (I, 200, .inl (addF g more 0)))] : va_W) := (by rw [addF_0])
  rw [hEq] at hP hD
  exact loop_2 (n - 0 + 1) 0 _ (by first | rfl | simp [nI_1, nI_0]) (by first | assumption | omega | rfl) (by exact Nat.lt_succ_self _) _ _ hP hD hS ls (lv_sub hl [1, 2, 0] rfl)

set_option maxHeartbeats 4000000 in
set_option maxRecDepth 100000 in
theorem c_X2_sumOfKeys (l : Launch) (D : va_G) (I J : ClassId) (sz : Nat) (x : Nat) (tp : Nat) (cp : Nat) (mr : Nat) (sp : Nat) (ur : Nat) (rm : Int32) (us : Int32) (aw : Int32) (tk : Nat) (tka : Nat) (tv : Nat) (tva : Nat) (n : Nat) (f : Nat → Int32) (g : Nat → Int32) (hn2 : n ≤ 200) : mCl l yX2_sumOfKeys wsX2_sumOfKeys 3 63 0 0 D I J [.ref x] [(x, .inr (2, [.ref tp, .ref cp, .ref mr, .ref sp, .ref ur, .int rm, .int us, .int aw])), (tp, .inr (0, [.ref tk, .ref tv])), (tk, .inr (1, [.ref tka, .int (nI n)])), (tka, .inl (I, 200, .inl f)), (tv, .inr (1, [.ref tva, .int (nI n)])), (tva, .inl (I, 200, .inl g))] sz (fun (x : Int64) (u : Unit) => x = (sumK f n)) (fun (u : Unit) => [(x, .inr (2, [.ref tp, .ref cp, .ref mr, .ref sp, .ref ur, .int rm, .int us, .int aw])), (tp, .inr (0, [.ref tk, .ref tv])), (tk, .inr (1, [.ref tka, .int (nI n)])), (tka, .inl (I, 200, .inl f)), (tv, .inr (1, [.ref tva, .int (nI n)])), (tva, .inl (I, 200, .inl g))]) := by
  refine m_ofl (cc := cX2_sumOfKeys) (maxL := 4) (ret := (some .long)) (by decide) rfl (Nat.le_of_ble_eq_true rfl) ?_
  intro p e s m args below meth c A ls hx hb hr hlocks hml hts hown hin hK hP hD hA hS hl
  have hl : lv_has ls 4 [(0, .ref x)] := hl
  have hP : va_P D vwCl [(x, .inr (2, [.ref tp, .ref cp, .ref mr, .ref sp, .ref ur, .int rm, .int us, .int aw])), (tp, .inr (0, [.ref tk, .ref tv])), (tk, .inr (1, [.ref tka, .int (nI n)])), (tka, .inl (I, 200, .inl f)), (tv, .inr (1, [.ref tva, .int (nI n)])), (tva, .inl (I, 200, .inl g))] s.heap := hP
  have hD : va_D A [(x, .inr (2, [.ref tp, .ref cp, .ref mr, .ref sp, .ref ur, .int rm, .int us, .int aw])), (tp, .inr (0, [.ref tk, .ref tv])), (tk, .inr (1, [.ref tka, .int (nI n)])), (tka, .inl (I, 200, .inl f)), (tv, .inr (1, [.ref tva, .int (nI n)])), (tva, .inl (I, 200, .inl g))] := hD
  refine lv_lconst (v := 0) hx hb dX2_sumOfKeys_0 (by decide) ?_
  refine lv_lstore_n (lv' := [(1, .long 0), (0, .ref x)]) hx hb dX2_sumOfKeys_1 rfl hl (by decide) rfl (fun ls hl => ?_)
  refine lv_iconst (v := 0) hx hb dX2_sumOfKeys_2 (by decide) ?_
  refine lv_istore_n (lv' := [(3, .int 0), (1, .long 0), (0, .ref x)]) hx hb dX2_sumOfKeys_3 rfl hl (by decide) rfl (fun ls hl => ?_)
  have loop_4 : ∀ (k_4 : Nat) (i : Nat) (x_1 : Int64) (ex_1 : x_1 = (sumK f i)) (x_3 : Int32) (ex_3 : x_3 = (nI i)) (hi : i ≤ n) (hm_ : n - i < k_4) (H : Heap) (locs : List Loc) (hP : va_P D vwCl [(x, .inr (2, [.ref tp, .ref cp, .ref mr, .ref sp, .ref ur, .int rm, .int us, .int aw])), (tp, .inr (0, [.ref tk, .ref tv])), (tk, .inr (1, [.ref tka, .int (nI n)])), (tka, .inl (I, 200, .inl f)), (tv, .inr (1, [.ref tva, .int (nI n)])), (tva, .inl (I, 200, .inl g))] H) (hD : va_D A [(x, .inr (2, [.ref tp, .ref cp, .ref mr, .ref sp, .ref ur, .int rm, .int us, .int aw])), (tp, .inr (0, [.ref tk, .ref tv])), (tk, .inr (1, [.ref tka, .int (nI n)])), (tka, .inl (I, 200, .inl f)), (tv, .inr (1, [.ref tva, .int (nI n)])), (tva, .inl (I, 200, .inl g))]) (hS : va_S A s.heap H locs) (ls : Array Slot) (hl : lv_has ls 4 [(0, .ref x), (1, .long x_1), (3, .int x_3)]), W p l e (mRm 3 63 0 0) s m args below meth c H locs 0 0 (MQ below (va_Ql (fun (x : Int64) (u : Unit) => x = (sumK f n)) (mB D (fun (u : Unit) => [(x, .inr (2, [.ref tp, .ref cp, .ref mr, .ref sp, .ref ur, .int rm, .int us, .int aw])), (tp, .inr (0, [.ref tk, .ref tv])), (tk, .inr (1, [.ref tka, .int (nI n)])), (tka, .inl (I, 200, .inl f)), (tv, .inr (1, [.ref tva, .int (nI n)])), (tva, .inl (I, 200, .inl g))]) A) A) args s 0 0 A) (F0 m 4 ls []) := by
    intro k_4
    induction k_4 with
    | zero => intro i x_1 ex_1 x_3 ex_3 hi hm_; exact absurd hm_ (Nat.not_lt_zero _)
    | succ k_4 ih_4 =>
      intro i x_1 ex_1 x_3 ex_3 hi hm_ H locs hP hD hS ls hl
      subst ex_1
      subst ex_3
      refine lv_iload_n hx hb dX2_sumOfKeys_4 rfl (lv_at hl 2 rfl) ?_
      refine lv_aload_n hx hb dX2_sumOfKeys_5 rfl (lv_at hl 0 rfl) ?_
      refine va_get (D := D) (ci := 2) (v := .ref tp) (C := RX2) (T := TX2) (N := 8) hx hb hts (fun _ h => List.mem_cons_of_mem _ (List.mem_append_left _ (List.mem_append_left _ (List.mem_append_right _ h)))) hown hK hP 0 rfl rfl 0 (by decide) (hts (.fieldLink RX2 14 "MapsByUse" "table" "LMapsByUse$Pairs;") (List.mem_of_getElem? (i := 1) (by decide +kernel))) (fun _ h9 => h9) rfl dX2_sumOfKeys_6 ?_
      refine m_Vi (As := []) (wr := [(x, .inr (2, [.ref tp, .ref cp, .ref mr, .ref sp, .ref ur, .int rm, .int us, .int aw])), (tka, .inl (I, 200, .inl f)), (tv, .inr (1, [.ref tva, .int (nI n)])), (tva, .inl (I, 200, .inl g))]) (ws2 := fun _ => [(x, .inr (2, [.ref tp, .ref cp, .ref mr, .ref sp, .ref ur, .int rm, .int us, .int aw])), (tp, .inr (0, [.ref tk, .ref tv])), (tk, .inr (1, [.ref tka, .int (nI n)])), (tka, .inl (I, 200, .inl f)), (tv, .inr (1, [.ref tva, .int (nI n)])), (tva, .inl (I, 200, .inl g))]) ⟨hx, hb, hml, hown, hts⟩ hA hK hP hD hS hl.1 (c_X0_held l D I J H.size tp tk tka tv n ) (cwV 0 hts gX2_sumOfKeys_X0_held rfl rfl rfl (by decide +kernel) ⟨Nat.le_of_ble_eq_true rfl, Nat.le_of_ble_eq_true rfl⟩) [1, 2] [0, 3, 4, 5] [0, 4, 5, 1, 2, 3] 1 0 rfl rfl rfl rfl rfl (by decide) (by decide) (by decide) (by decide) (fun _ => rfl) rfl rfl (Nat.le_of_ble_eq_true rfl) dX2_sumOfKeys_9 ⟨(by exact Nat.le_of_ble_eq_true rfl), (by exact Nat.le_of_ble_eq_true rfl)⟩ (fun r_9 u_9 H locs hw_9 hP hD hS => ?_)
      try dsimp only at hw_9
      have hP : va_P D vwCl [(x, .inr (2, [.ref tp, .ref cp, .ref mr, .ref sp, .ref ur, .int rm, .int us, .int aw])), (tp, .inr (0, [.ref tk, .ref tv])), (tk, .inr (1, [.ref tka, .int (nI n)])), (tka, .inl (I, 200, .inl f)), (tv, .inr (1, [.ref tva, .int (nI n)])), (tva, .inl (I, 200, .inl g))] H := hP
      have hD : va_D A [(x, .inr (2, [.ref tp, .ref cp, .ref mr, .ref sp, .ref ur, .int rm, .int us, .int aw])), (tp, .inr (0, [.ref tk, .ref tv])), (tk, .inr (1, [.ref tka, .int (nI n)])), (tka, .inl (I, 200, .inl f)), (tv, .inr (1, [.ref tva, .int (nI n)])), (tva, .inl (I, 200, .inl g))] := hD
      subst hw_9
      refine lv_icmp_ge (tgt := 33) hx hb dX2_sumOfKeys_12 (by decide) (fun c_12 => ?_) (fun c_12 => ?_)
      · --L412T
        have qq := (nI_leI (by omega) (by omega)).mp c_12
        have ee : i = n := by omega
        refine lv_lload_n hx hb dX2_sumOfKeys_33 rfl (lv_at hl 1 rfl) ?_
        refine m_lret () hx hb hr hlocks hP hD hS dX2_sumOfKeys_34 (by first | exact Nat.le_of_ble_eq_true rfl | omega) (by first | exact Nat.le_of_ble_eq_true rfl | omega) ?_
        rw [ee]
      · --L412F
        have hlt : i < n := by
          rcases Nat.lt_or_ge i n with q | q
          · exact q
          · exact absurd ((nI_leI (by omega) (by omega)).mpr q) c_12
        refine lv_lload_n hx hb dX2_sumOfKeys_15 rfl (lv_at hl 1 rfl) ?_
        refine lv_aload_n hx hb dX2_sumOfKeys_16 rfl (lv_at hl 0 rfl) ?_
        refine va_get (D := D) (ci := 2) (v := .ref tp) (C := RX2) (T := TX2) (N := 8) hx hb hts (fun _ h => List.mem_cons_of_mem _ (List.mem_append_left _ (List.mem_append_left _ (List.mem_append_right _ h)))) hown hK hP 0 rfl rfl 0 (by decide) (hts (.fieldLink RX2 14 "MapsByUse" "table" "LMapsByUse$Pairs;") (List.mem_of_getElem? (i := 1) (by decide +kernel))) (fun _ h9 => h9) rfl dX2_sumOfKeys_17 ?_
        refine lv_iload_n hx hb dX2_sumOfKeys_20 rfl (lv_at hl 2 rfl) ?_
        refine m_Vi (As := [.int (nI i)]) (wr := [(x, .inr (2, [.ref tp, .ref cp, .ref mr, .ref sp, .ref ur, .int rm, .int us, .int aw])), (tv, .inr (1, [.ref tva, .int (nI n)])), (tva, .inl (I, 200, .inl g))]) (ws2 := fun _ => [(x, .inr (2, [.ref tp, .ref cp, .ref mr, .ref sp, .ref ur, .int rm, .int us, .int aw])), (tp, .inr (0, [.ref tk, .ref tv])), (tk, .inr (1, [.ref tka, .int (nI n)])), (tka, .inl (I, 200, .inl f)), (tv, .inr (1, [.ref tva, .int (nI n)])), (tva, .inl (I, 200, .inl g))]) ⟨hx, hb, hml, hown, hts⟩ hA hK hP hD hS hl.1 (c_X0_keyIn l D I J H.size tp tk tka tv n 200 f i (by assumption) (by omega) (by omega)) (cwV 1 hts gX2_sumOfKeys_X0_keyIn rfl rfl rfl (by decide +kernel) ⟨Nat.le_of_ble_eq_true rfl, Nat.le_of_ble_eq_true rfl⟩) [1, 2, 3] [0, 4, 5] [0, 3, 4, 5, 1, 2] 1 0 rfl rfl rfl rfl rfl (by decide) (by decide) (by decide) (by decide) (fun _ => rfl) rfl rfl (Nat.le_of_ble_eq_true rfl) dX2_sumOfKeys_21 ⟨(by exact Nat.le_of_ble_eq_true rfl), (by exact Nat.le_of_ble_eq_true rfl)⟩ (fun r_21 u_21 H locs hw_21 hP hD hS => ?_)
        try dsimp only at hw_21
        have hP : va_P D vwCl [(x, .inr (2, [.ref tp, .ref cp, .ref mr, .ref sp, .ref ur, .int rm, .int us, .int aw])), (tp, .inr (0, [.ref tk, .ref tv])), (tk, .inr (1, [.ref tka, .int (nI n)])), (tka, .inl (I, 200, .inl f)), (tv, .inr (1, [.ref tva, .int (nI n)])), (tva, .inl (I, 200, .inl g))] H := hP
        have hD : va_D A [(x, .inr (2, [.ref tp, .ref cp, .ref mr, .ref sp, .ref ur, .int rm, .int us, .int aw])), (tp, .inr (0, [.ref tk, .ref tv])), (tk, .inr (1, [.ref tka, .int (nI n)])), (tka, .inl (I, 200, .inl f)), (tv, .inr (1, [.ref tva, .int (nI n)])), (tva, .inl (I, 200, .inl g))] := hD
        subst hw_21
        refine lv_i2l (v := (f i).toInt64) hx hb dX2_sumOfKeys_24 rfl ?_
        refine lv_ladd hx hb dX2_sumOfKeys_25 ?_
        refine lv_lstore_n (lv' := [(1, .long ((sumK f i) + ((f i).toInt64))), (0, .ref x), (3, .int (nI i))]) hx hb dX2_sumOfKeys_26 rfl hl (by decide) rfl (fun ls hl => ?_)
        refine lv_iinc (v := (nI (i + 1))) (lv' := [(3, .int (nI (i + 1))), (1, .long ((sumK f i) + ((f i).toInt64))), (0, .ref x)]) hx hb dX2_sumOfKeys_27 hl (k := 2) rfl (by rw [← nI_1]; rfl) (by decide) rfl (fun ls hl => ?_)
        refine lv_goto (tgt := 4) hx hb dX2_sumOfKeys_30 (by decide) ?_
        exact ih_4  (i + 1) _ (by first | rfl | simp [nI_1, nI_0]) _ (by rfl) (by first | assumption | omega | rfl) (by omega) _ _ hP hD hS ls (lv_sub hl [2, 1, 0] rfl)
  exact loop_4 (n - 0 + 1) 0 _ (by first | rfl | simp [nI_1, nI_0]) _ (by first | rfl | simp [nI_1, nI_0]) (by first | assumption | omega | rfl) (by exact Nat.lt_succ_self _) _ _ hP hD hS ls (lv_sub hl [2, 1, 0] rfl)

set_option maxHeartbeats 4000000 in
set_option maxRecDepth 100000 in
theorem c_X2_sumOfValues (l : Launch) (D : va_G) (I J : ClassId) (sz : Nat) (x : Nat) (tp : Nat) (cp : Nat) (mr : Nat) (sp : Nat) (ur : Nat) (rm : Int32) (us : Int32) (aw : Int32) (tk : Nat) (tka : Nat) (tv : Nat) (tva : Nat) (n : Nat) (f : Nat → Int32) (g : Nat → Int32) (hn2 : n ≤ 200) : mCl l yX2_sumOfValues wsX2_sumOfValues 3 63 0 0 D I J [.ref x] [(x, .inr (2, [.ref tp, .ref cp, .ref mr, .ref sp, .ref ur, .int rm, .int us, .int aw])), (tp, .inr (0, [.ref tk, .ref tv])), (tk, .inr (1, [.ref tka, .int (nI n)])), (tka, .inl (I, 200, .inl f)), (tv, .inr (1, [.ref tva, .int (nI n)])), (tva, .inl (I, 200, .inl g))] sz (fun (x : Int64) (u : Unit) => x = (sumK g n)) (fun (u : Unit) => [(x, .inr (2, [.ref tp, .ref cp, .ref mr, .ref sp, .ref ur, .int rm, .int us, .int aw])), (tp, .inr (0, [.ref tk, .ref tv])), (tk, .inr (1, [.ref tka, .int (nI n)])), (tka, .inl (I, 200, .inl f)), (tv, .inr (1, [.ref tva, .int (nI n)])), (tva, .inl (I, 200, .inl g))]) := by
  refine m_ofl (cc := cX2_sumOfValues) (maxL := 4) (ret := (some .long)) (by decide) rfl (Nat.le_of_ble_eq_true rfl) ?_
  intro p e s m args below meth c A ls hx hb hr hlocks hml hts hown hin hK hP hD hA hS hl
  have hl : lv_has ls 4 [(0, .ref x)] := hl
  have hP : va_P D vwCl [(x, .inr (2, [.ref tp, .ref cp, .ref mr, .ref sp, .ref ur, .int rm, .int us, .int aw])), (tp, .inr (0, [.ref tk, .ref tv])), (tk, .inr (1, [.ref tka, .int (nI n)])), (tka, .inl (I, 200, .inl f)), (tv, .inr (1, [.ref tva, .int (nI n)])), (tva, .inl (I, 200, .inl g))] s.heap := hP
  have hD : va_D A [(x, .inr (2, [.ref tp, .ref cp, .ref mr, .ref sp, .ref ur, .int rm, .int us, .int aw])), (tp, .inr (0, [.ref tk, .ref tv])), (tk, .inr (1, [.ref tka, .int (nI n)])), (tka, .inl (I, 200, .inl f)), (tv, .inr (1, [.ref tva, .int (nI n)])), (tva, .inl (I, 200, .inl g))] := hD
  refine lv_lconst (v := 0) hx hb dX2_sumOfValues_0 (by decide) ?_
  refine lv_lstore_n (lv' := [(1, .long 0), (0, .ref x)]) hx hb dX2_sumOfValues_1 rfl hl (by decide) rfl (fun ls hl => ?_)
  refine lv_iconst (v := 0) hx hb dX2_sumOfValues_2 (by decide) ?_
  refine lv_istore_n (lv' := [(3, .int 0), (1, .long 0), (0, .ref x)]) hx hb dX2_sumOfValues_3 rfl hl (by decide) rfl (fun ls hl => ?_)
  have loop_4 : ∀ (k_4 : Nat) (i : Nat) (x_1 : Int64) (ex_1 : x_1 = (sumK g i)) (x_3 : Int32) (ex_3 : x_3 = (nI i)) (hi : i ≤ n) (hm_ : n - i < k_4) (H : Heap) (locs : List Loc) (hP : va_P D vwCl [(x, .inr (2, [.ref tp, .ref cp, .ref mr, .ref sp, .ref ur, .int rm, .int us, .int aw])), (tp, .inr (0, [.ref tk, .ref tv])), (tk, .inr (1, [.ref tka, .int (nI n)])), (tka, .inl (I, 200, .inl f)), (tv, .inr (1, [.ref tva, .int (nI n)])), (tva, .inl (I, 200, .inl g))] H) (hD : va_D A [(x, .inr (2, [.ref tp, .ref cp, .ref mr, .ref sp, .ref ur, .int rm, .int us, .int aw])), (tp, .inr (0, [.ref tk, .ref tv])), (tk, .inr (1, [.ref tka, .int (nI n)])), (tka, .inl (I, 200, .inl f)), (tv, .inr (1, [.ref tva, .int (nI n)])), (tva, .inl (I, 200, .inl g))]) (hS : va_S A s.heap H locs) (ls : Array Slot) (hl : lv_has ls 4 [(0, .ref x), (1, .long x_1), (3, .int x_3)]), W p l e (mRm 3 63 0 0) s m args below meth c H locs 0 0 (MQ below (va_Ql (fun (x : Int64) (u : Unit) => x = (sumK g n)) (mB D (fun (u : Unit) => [(x, .inr (2, [.ref tp, .ref cp, .ref mr, .ref sp, .ref ur, .int rm, .int us, .int aw])), (tp, .inr (0, [.ref tk, .ref tv])), (tk, .inr (1, [.ref tka, .int (nI n)])), (tka, .inl (I, 200, .inl f)), (tv, .inr (1, [.ref tva, .int (nI n)])), (tva, .inl (I, 200, .inl g))]) A) A) args s 0 0 A) (F0 m 4 ls []) := by
    intro k_4
    induction k_4 with
    | zero => intro i x_1 ex_1 x_3 ex_3 hi hm_; exact absurd hm_ (Nat.not_lt_zero _)
    | succ k_4 ih_4 =>
      intro i x_1 ex_1 x_3 ex_3 hi hm_ H locs hP hD hS ls hl
      subst ex_1
      subst ex_3
      refine lv_iload_n hx hb dX2_sumOfValues_4 rfl (lv_at hl 2 rfl) ?_
      refine lv_aload_n hx hb dX2_sumOfValues_5 rfl (lv_at hl 0 rfl) ?_
      refine va_get (D := D) (ci := 2) (v := .ref tp) (C := RX2) (T := TX2) (N := 8) hx hb hts (fun _ h => List.mem_cons_of_mem _ (List.mem_append_left _ (List.mem_append_left _ (List.mem_append_right _ h)))) hown hK hP 0 rfl rfl 0 (by decide) (hts (.fieldLink RX2 14 "MapsByUse" "table" "LMapsByUse$Pairs;") (List.mem_of_getElem? (i := 1) (by decide +kernel))) (fun _ h9 => h9) rfl dX2_sumOfValues_6 ?_
      refine m_Vi (As := []) (wr := [(x, .inr (2, [.ref tp, .ref cp, .ref mr, .ref sp, .ref ur, .int rm, .int us, .int aw])), (tka, .inl (I, 200, .inl f)), (tv, .inr (1, [.ref tva, .int (nI n)])), (tva, .inl (I, 200, .inl g))]) (ws2 := fun _ => [(x, .inr (2, [.ref tp, .ref cp, .ref mr, .ref sp, .ref ur, .int rm, .int us, .int aw])), (tp, .inr (0, [.ref tk, .ref tv])), (tk, .inr (1, [.ref tka, .int (nI n)])), (tka, .inl (I, 200, .inl f)), (tv, .inr (1, [.ref tva, .int (nI n)])), (tva, .inl (I, 200, .inl g))]) ⟨hx, hb, hml, hown, hts⟩ hA hK hP hD hS hl.1 (c_X0_held l D I J H.size tp tk tka tv n ) (cwV 0 hts gX2_sumOfValues_X0_held rfl rfl rfl (by decide +kernel) ⟨Nat.le_of_ble_eq_true rfl, Nat.le_of_ble_eq_true rfl⟩) [1, 2] [0, 3, 4, 5] [0, 4, 5, 1, 2, 3] 1 0 rfl rfl rfl rfl rfl (by decide) (by decide) (by decide) (by decide) (fun _ => rfl) rfl rfl (Nat.le_of_ble_eq_true rfl) dX2_sumOfValues_9 ⟨(by exact Nat.le_of_ble_eq_true rfl), (by exact Nat.le_of_ble_eq_true rfl)⟩ (fun r_9 u_9 H locs hw_9 hP hD hS => ?_)
      try dsimp only at hw_9
      have hP : va_P D vwCl [(x, .inr (2, [.ref tp, .ref cp, .ref mr, .ref sp, .ref ur, .int rm, .int us, .int aw])), (tp, .inr (0, [.ref tk, .ref tv])), (tk, .inr (1, [.ref tka, .int (nI n)])), (tka, .inl (I, 200, .inl f)), (tv, .inr (1, [.ref tva, .int (nI n)])), (tva, .inl (I, 200, .inl g))] H := hP
      have hD : va_D A [(x, .inr (2, [.ref tp, .ref cp, .ref mr, .ref sp, .ref ur, .int rm, .int us, .int aw])), (tp, .inr (0, [.ref tk, .ref tv])), (tk, .inr (1, [.ref tka, .int (nI n)])), (tka, .inl (I, 200, .inl f)), (tv, .inr (1, [.ref tva, .int (nI n)])), (tva, .inl (I, 200, .inl g))] := hD
      subst hw_9
      refine lv_icmp_ge (tgt := 33) hx hb dX2_sumOfValues_12 (by decide) (fun c_12 => ?_) (fun c_12 => ?_)
      · --L412T
        have qq := (nI_leI (by omega) (by omega)).mp c_12
        have ee : i = n := by omega
        refine lv_lload_n hx hb dX2_sumOfValues_33 rfl (lv_at hl 1 rfl) ?_
        refine m_lret () hx hb hr hlocks hP hD hS dX2_sumOfValues_34 (by first | exact Nat.le_of_ble_eq_true rfl | omega) (by first | exact Nat.le_of_ble_eq_true rfl | omega) ?_
        rw [ee]
      · --L412F
        have hlt : i < n := by
          rcases Nat.lt_or_ge i n with q | q
          · exact q
          · exact absurd ((nI_leI (by omega) (by omega)).mpr q) c_12
        refine lv_lload_n hx hb dX2_sumOfValues_15 rfl (lv_at hl 1 rfl) ?_
        refine lv_aload_n hx hb dX2_sumOfValues_16 rfl (lv_at hl 0 rfl) ?_
        refine va_get (D := D) (ci := 2) (v := .ref tp) (C := RX2) (T := TX2) (N := 8) hx hb hts (fun _ h => List.mem_cons_of_mem _ (List.mem_append_left _ (List.mem_append_left _ (List.mem_append_right _ h)))) hown hK hP 0 rfl rfl 0 (by decide) (hts (.fieldLink RX2 14 "MapsByUse" "table" "LMapsByUse$Pairs;") (List.mem_of_getElem? (i := 1) (by decide +kernel))) (fun _ h9 => h9) rfl dX2_sumOfValues_17 ?_
        refine lv_iload_n hx hb dX2_sumOfValues_20 rfl (lv_at hl 2 rfl) ?_
        refine m_Vi (As := [.int (nI i)]) (wr := [(x, .inr (2, [.ref tp, .ref cp, .ref mr, .ref sp, .ref ur, .int rm, .int us, .int aw])), (tk, .inr (1, [.ref tka, .int (nI n)])), (tka, .inl (I, 200, .inl f))]) (ws2 := fun _ => [(x, .inr (2, [.ref tp, .ref cp, .ref mr, .ref sp, .ref ur, .int rm, .int us, .int aw])), (tp, .inr (0, [.ref tk, .ref tv])), (tk, .inr (1, [.ref tka, .int (nI n)])), (tka, .inl (I, 200, .inl f)), (tv, .inr (1, [.ref tva, .int (nI n)])), (tva, .inl (I, 200, .inl g))]) ⟨hx, hb, hml, hown, hts⟩ hA hK hP hD hS hl.1 (c_X0_valueIn l D I J H.size tp tk tv tva n 200 g i (by assumption) (by omega) (by omega)) (cwV 1 hts gX2_sumOfValues_X0_valueIn rfl rfl rfl (by decide +kernel) ⟨Nat.le_of_ble_eq_true rfl, Nat.le_of_ble_eq_true rfl⟩) [1, 4, 5] [0, 2, 3] [0, 3, 1, 2, 4, 5] 1 0 rfl rfl rfl rfl rfl (by decide) (by decide) (by decide) (by decide) (fun _ => rfl) rfl rfl (Nat.le_of_ble_eq_true rfl) dX2_sumOfValues_21 ⟨(by exact Nat.le_of_ble_eq_true rfl), (by exact Nat.le_of_ble_eq_true rfl)⟩ (fun r_21 u_21 H locs hw_21 hP hD hS => ?_)
        try dsimp only at hw_21
        have hP : va_P D vwCl [(x, .inr (2, [.ref tp, .ref cp, .ref mr, .ref sp, .ref ur, .int rm, .int us, .int aw])), (tp, .inr (0, [.ref tk, .ref tv])), (tk, .inr (1, [.ref tka, .int (nI n)])), (tka, .inl (I, 200, .inl f)), (tv, .inr (1, [.ref tva, .int (nI n)])), (tva, .inl (I, 200, .inl g))] H := hP
        have hD : va_D A [(x, .inr (2, [.ref tp, .ref cp, .ref mr, .ref sp, .ref ur, .int rm, .int us, .int aw])), (tp, .inr (0, [.ref tk, .ref tv])), (tk, .inr (1, [.ref tka, .int (nI n)])), (tka, .inl (I, 200, .inl f)), (tv, .inr (1, [.ref tva, .int (nI n)])), (tva, .inl (I, 200, .inl g))] := hD
        subst hw_21
        refine lv_i2l (v := (g i).toInt64) hx hb dX2_sumOfValues_24 rfl ?_
        refine lv_ladd hx hb dX2_sumOfValues_25 ?_
        refine lv_lstore_n (lv' := [(1, .long ((sumK g i) + ((g i).toInt64))), (0, .ref x), (3, .int (nI i))]) hx hb dX2_sumOfValues_26 rfl hl (by decide) rfl (fun ls hl => ?_)
        refine lv_iinc (v := (nI (i + 1))) (lv' := [(3, .int (nI (i + 1))), (1, .long ((sumK g i) + ((g i).toInt64))), (0, .ref x)]) hx hb dX2_sumOfValues_27 hl (k := 2) rfl (by rw [← nI_1]; rfl) (by decide) rfl (fun ls hl => ?_)
        refine lv_goto (tgt := 4) hx hb dX2_sumOfValues_30 (by decide) ?_
        exact ih_4  (i + 1) _ (by first | rfl | simp [nI_1, nI_0]) _ (by rfl) (by first | assumption | omega | rfl) (by omega) _ _ hP hD hS ls (lv_sub hl [2, 1, 0] rfl)
  exact loop_4 (n - 0 + 1) 0 _ (by first | rfl | simp [nI_1, nI_0]) _ (by first | rfl | simp [nI_1, nI_0]) (by first | assumption | omega | rfl) (by exact Nat.lt_succ_self _) _ _ hP hD hS ls (lv_sub hl [2, 1, 0] rfl)

set_option maxHeartbeats 4000000 in
set_option maxRecDepth 100000 in
theorem c_X2_sum (l : Launch) (D : va_G) (I J : ClassId) (sz : Nat) (x : Nat) (tp : Nat) (cp : Nat) (mr : Nat) (sp : Nat) (ur : Nat) (rm : Int32) (us : Int32) (aw : Int32) (tk : Nat) (tka : Nat) (tv : Nat) (tva : Nat) (n : Nat) (f : Nat → Int32) (g : Nat → Int32) (hn2 : n ≤ 200) : mCl l yX2_sum wsX2_sum 3 63 0 0 D I J [.ref x] [(x, .inr (2, [.ref tp, .ref cp, .ref mr, .ref sp, .ref ur, .int rm, .int us, .int aw])), (tp, .inr (0, [.ref tk, .ref tv])), (tk, .inr (1, [.ref tka, .int (nI n)])), (tka, .inl (I, 200, .inl f)), (tv, .inr (1, [.ref tva, .int (nI n)])), (tva, .inl (I, 200, .inl g))] sz (fun (x : Int64) (u : Unit) => x = (sumP f g n)) (fun (u : Unit) => [(x, .inr (2, [.ref tp, .ref cp, .ref mr, .ref sp, .ref ur, .int rm, .int us, .int aw])), (tp, .inr (0, [.ref tk, .ref tv])), (tk, .inr (1, [.ref tka, .int (nI n)])), (tka, .inl (I, 200, .inl f)), (tv, .inr (1, [.ref tva, .int (nI n)])), (tva, .inl (I, 200, .inl g))]) := by
  refine m_ofl (cc := cX2_sum) (maxL := 8) (ret := (some .long)) (by decide) rfl (Nat.le_of_ble_eq_true rfl) ?_
  intro p e s m args below meth c A ls hx hb hr hlocks hml hts hown hin hK hP hD hA hS hl
  have hl : lv_has ls 8 [(0, .ref x)] := hl
  have hP : va_P D vwCl [(x, .inr (2, [.ref tp, .ref cp, .ref mr, .ref sp, .ref ur, .int rm, .int us, .int aw])), (tp, .inr (0, [.ref tk, .ref tv])), (tk, .inr (1, [.ref tka, .int (nI n)])), (tka, .inl (I, 200, .inl f)), (tv, .inr (1, [.ref tva, .int (nI n)])), (tva, .inl (I, 200, .inl g))] s.heap := hP
  have hD : va_D A [(x, .inr (2, [.ref tp, .ref cp, .ref mr, .ref sp, .ref ur, .int rm, .int us, .int aw])), (tp, .inr (0, [.ref tk, .ref tv])), (tk, .inr (1, [.ref tka, .int (nI n)])), (tka, .inl (I, 200, .inl f)), (tv, .inr (1, [.ref tva, .int (nI n)])), (tva, .inl (I, 200, .inl g))] := hD
  refine lv_lconst (v := 0) hx hb dX2_sum_0 (by decide) ?_
  refine lv_lstore_n (lv' := [(1, .long 0), (0, .ref x)]) hx hb dX2_sum_1 rfl hl (by decide) rfl (fun ls hl => ?_)
  refine lv_iconst (v := 0) hx hb dX2_sum_2 (by decide) ?_
  refine lv_istore_n (lv' := [(3, .int 0), (1, .long 0), (0, .ref x)]) hx hb dX2_sum_3 rfl hl (by decide) rfl (fun ls hl => ?_)
  have loop_4 : ∀ (k_4 : Nat) (i : Nat) (x_1 : Int64) (ex_1 : x_1 = (sumP f g i)) (x_3 : Int32) (ex_3 : x_3 = (nI i)) (hi : i ≤ n) (hm_ : n - i < k_4) (H : Heap) (locs : List Loc) (hP : va_P D vwCl [(x, .inr (2, [.ref tp, .ref cp, .ref mr, .ref sp, .ref ur, .int rm, .int us, .int aw])), (tp, .inr (0, [.ref tk, .ref tv])), (tk, .inr (1, [.ref tka, .int (nI n)])), (tka, .inl (I, 200, .inl f)), (tv, .inr (1, [.ref tva, .int (nI n)])), (tva, .inl (I, 200, .inl g))] H) (hD : va_D A [(x, .inr (2, [.ref tp, .ref cp, .ref mr, .ref sp, .ref ur, .int rm, .int us, .int aw])), (tp, .inr (0, [.ref tk, .ref tv])), (tk, .inr (1, [.ref tka, .int (nI n)])), (tka, .inl (I, 200, .inl f)), (tv, .inr (1, [.ref tva, .int (nI n)])), (tva, .inl (I, 200, .inl g))]) (hS : va_S A s.heap H locs) (ls : Array Slot) (hl : lv_has ls 8 [(0, .ref x), (1, .long x_1), (3, .int x_3)]), W p l e (mRm 3 63 0 0) s m args below meth c H locs 0 0 (MQ below (va_Ql (fun (x : Int64) (u : Unit) => x = (sumP f g n)) (mB D (fun (u : Unit) => [(x, .inr (2, [.ref tp, .ref cp, .ref mr, .ref sp, .ref ur, .int rm, .int us, .int aw])), (tp, .inr (0, [.ref tk, .ref tv])), (tk, .inr (1, [.ref tka, .int (nI n)])), (tka, .inl (I, 200, .inl f)), (tv, .inr (1, [.ref tva, .int (nI n)])), (tva, .inl (I, 200, .inl g))]) A) A) args s 0 0 A) (F0 m 4 ls []) := by
    intro k_4
    induction k_4 with
    | zero => intro i x_1 ex_1 x_3 ex_3 hi hm_; exact absurd hm_ (Nat.not_lt_zero _)
    | succ k_4 ih_4 =>
      intro i x_1 ex_1 x_3 ex_3 hi hm_ H locs hP hD hS ls hl
      subst ex_1
      subst ex_3
      refine lv_iload_n hx hb dX2_sum_4 rfl (lv_at hl 2 rfl) ?_
      refine lv_aload_n hx hb dX2_sum_5 rfl (lv_at hl 0 rfl) ?_
      refine va_get (D := D) (ci := 2) (v := .ref tp) (C := RX2) (T := TX2) (N := 8) hx hb hts (fun _ h => List.mem_cons_of_mem _ (List.mem_append_left _ (List.mem_append_left _ (List.mem_append_right _ h)))) hown hK hP 0 rfl rfl 0 (by decide) (hts (.fieldLink RX2 14 "MapsByUse" "table" "LMapsByUse$Pairs;") (List.mem_of_getElem? (i := 1) (by decide +kernel))) (fun _ h9 => h9) rfl dX2_sum_6 ?_
      refine m_Vi (As := []) (wr := [(x, .inr (2, [.ref tp, .ref cp, .ref mr, .ref sp, .ref ur, .int rm, .int us, .int aw])), (tka, .inl (I, 200, .inl f)), (tv, .inr (1, [.ref tva, .int (nI n)])), (tva, .inl (I, 200, .inl g))]) (ws2 := fun _ => [(x, .inr (2, [.ref tp, .ref cp, .ref mr, .ref sp, .ref ur, .int rm, .int us, .int aw])), (tp, .inr (0, [.ref tk, .ref tv])), (tk, .inr (1, [.ref tka, .int (nI n)])), (tka, .inl (I, 200, .inl f)), (tv, .inr (1, [.ref tva, .int (nI n)])), (tva, .inl (I, 200, .inl g))]) ⟨hx, hb, hml, hown, hts⟩ hA hK hP hD hS hl.1 (c_X0_held l D I J H.size tp tk tka tv n ) (cwV 0 hts gX2_sum_X0_held rfl rfl rfl (by decide +kernel) ⟨Nat.le_of_ble_eq_true rfl, Nat.le_of_ble_eq_true rfl⟩) [1, 2] [0, 3, 4, 5] [0, 4, 5, 1, 2, 3] 1 0 rfl rfl rfl rfl rfl (by decide) (by decide) (by decide) (by decide) (fun _ => rfl) rfl rfl (Nat.le_of_ble_eq_true rfl) dX2_sum_9 ⟨(by exact Nat.le_of_ble_eq_true rfl), (by exact Nat.le_of_ble_eq_true rfl)⟩ (fun r_9 u_9 H locs hw_9 hP hD hS => ?_)
      try dsimp only at hw_9
      have hP : va_P D vwCl [(x, .inr (2, [.ref tp, .ref cp, .ref mr, .ref sp, .ref ur, .int rm, .int us, .int aw])), (tp, .inr (0, [.ref tk, .ref tv])), (tk, .inr (1, [.ref tka, .int (nI n)])), (tka, .inl (I, 200, .inl f)), (tv, .inr (1, [.ref tva, .int (nI n)])), (tva, .inl (I, 200, .inl g))] H := hP
      have hD : va_D A [(x, .inr (2, [.ref tp, .ref cp, .ref mr, .ref sp, .ref ur, .int rm, .int us, .int aw])), (tp, .inr (0, [.ref tk, .ref tv])), (tk, .inr (1, [.ref tka, .int (nI n)])), (tka, .inl (I, 200, .inl f)), (tv, .inr (1, [.ref tva, .int (nI n)])), (tva, .inl (I, 200, .inl g))] := hD
      subst hw_9
      refine lv_icmp_ge (tgt := 62) hx hb dX2_sum_12 (by decide) (fun c_12 => ?_) (fun c_12 => ?_)
      · --L412T
        have qq := (nI_leI (by omega) (by omega)).mp c_12
        have ee : i = n := by omega
        refine lv_lload_n hx hb dX2_sum_62 rfl (lv_at hl 1 rfl) ?_
        refine m_lret () hx hb hr hlocks hP hD hS dX2_sum_63 (by first | exact Nat.le_of_ble_eq_true rfl | omega) (by first | exact Nat.le_of_ble_eq_true rfl | omega) ?_
        rw [ee]
      · --L412F
        have hlt : i < n := by
          rcases Nat.lt_or_ge i n with q | q
          · exact q
          · exact absurd ((nI_leI (by omega) (by omega)).mpr q) c_12
        refine lv_aload_n hx hb dX2_sum_15 rfl (lv_at hl 0 rfl) ?_
        refine va_get (D := D) (ci := 2) (v := .ref tp) (C := RX2) (T := TX2) (N := 8) hx hb hts (fun _ h => List.mem_cons_of_mem _ (List.mem_append_left _ (List.mem_append_left _ (List.mem_append_right _ h)))) hown hK hP 0 rfl rfl 0 (by decide) (hts (.fieldLink RX2 14 "MapsByUse" "table" "LMapsByUse$Pairs;") (List.mem_of_getElem? (i := 1) (by decide +kernel))) (fun _ h9 => h9) rfl dX2_sum_16 ?_
        refine lv_iload_n hx hb dX2_sum_19 rfl (lv_at hl 2 rfl) ?_
        refine m_Vi (As := [.int (nI i)]) (wr := [(x, .inr (2, [.ref tp, .ref cp, .ref mr, .ref sp, .ref ur, .int rm, .int us, .int aw])), (tv, .inr (1, [.ref tva, .int (nI n)])), (tva, .inl (I, 200, .inl g))]) (ws2 := fun _ => [(x, .inr (2, [.ref tp, .ref cp, .ref mr, .ref sp, .ref ur, .int rm, .int us, .int aw])), (tp, .inr (0, [.ref tk, .ref tv])), (tk, .inr (1, [.ref tka, .int (nI n)])), (tka, .inl (I, 200, .inl f)), (tv, .inr (1, [.ref tva, .int (nI n)])), (tva, .inl (I, 200, .inl g))]) ⟨hx, hb, hml, hown, hts⟩ hA hK hP hD hS hl.1 (c_X0_keyIn l D I J H.size tp tk tka tv n 200 f i (by assumption) (by omega) (by omega)) (cwV 1 hts gX2_sum_X0_keyIn rfl rfl rfl (by decide +kernel) ⟨Nat.le_of_ble_eq_true rfl, Nat.le_of_ble_eq_true rfl⟩) [1, 2, 3] [0, 4, 5] [0, 3, 4, 5, 1, 2] 1 0 rfl rfl rfl rfl rfl (by decide) (by decide) (by decide) (by decide) (fun _ => rfl) rfl rfl (Nat.le_of_ble_eq_true rfl) dX2_sum_20 ⟨(by exact Nat.le_of_ble_eq_true rfl), (by exact Nat.le_of_ble_eq_true rfl)⟩ (fun r_20 u_20 H locs hw_20 hP hD hS => ?_)
        try dsimp only at hw_20
        have hP : va_P D vwCl [(x, .inr (2, [.ref tp, .ref cp, .ref mr, .ref sp, .ref ur, .int rm, .int us, .int aw])), (tp, .inr (0, [.ref tk, .ref tv])), (tk, .inr (1, [.ref tka, .int (nI n)])), (tka, .inl (I, 200, .inl f)), (tv, .inr (1, [.ref tva, .int (nI n)])), (tva, .inl (I, 200, .inl g))] H := hP
        have hD : va_D A [(x, .inr (2, [.ref tp, .ref cp, .ref mr, .ref sp, .ref ur, .int rm, .int us, .int aw])), (tp, .inr (0, [.ref tk, .ref tv])), (tk, .inr (1, [.ref tka, .int (nI n)])), (tka, .inl (I, 200, .inl f)), (tv, .inr (1, [.ref tva, .int (nI n)])), (tva, .inl (I, 200, .inl g))] := hD
        subst hw_20
        refine lv_i2l (v := (f i).toInt64) hx hb dX2_sum_23 rfl ?_
        refine lv_lstore (lv' := [(4, .long ((f i).toInt64)), (0, .ref x), (1, .long (sumP f g i)), (3, .int (nI i))]) hx hb dX2_sum_24 hl (by decide) rfl (fun ls hl => ?_)
        refine lv_aload_n hx hb dX2_sum_26 rfl (lv_at hl 1 rfl) ?_
        refine va_get (D := D) (ci := 2) (v := .ref tp) (C := RX2) (T := TX2) (N := 8) hx hb hts (fun _ h => List.mem_cons_of_mem _ (List.mem_append_left _ (List.mem_append_left _ (List.mem_append_right _ h)))) hown hK hP 0 rfl rfl 0 (by decide) (hts (.fieldLink RX2 14 "MapsByUse" "table" "LMapsByUse$Pairs;") (List.mem_of_getElem? (i := 1) (by decide +kernel))) (fun _ h9 => h9) rfl dX2_sum_27 ?_
        refine lv_iload_n hx hb dX2_sum_30 rfl (lv_at hl 3 rfl) ?_
        refine m_Vi (As := [.int (nI i)]) (wr := [(x, .inr (2, [.ref tp, .ref cp, .ref mr, .ref sp, .ref ur, .int rm, .int us, .int aw])), (tk, .inr (1, [.ref tka, .int (nI n)])), (tka, .inl (I, 200, .inl f))]) (ws2 := fun _ => [(x, .inr (2, [.ref tp, .ref cp, .ref mr, .ref sp, .ref ur, .int rm, .int us, .int aw])), (tp, .inr (0, [.ref tk, .ref tv])), (tk, .inr (1, [.ref tka, .int (nI n)])), (tka, .inl (I, 200, .inl f)), (tv, .inr (1, [.ref tva, .int (nI n)])), (tva, .inl (I, 200, .inl g))]) ⟨hx, hb, hml, hown, hts⟩ hA hK hP hD hS hl.1 (c_X0_valueIn l D I J H.size tp tk tv tva n 200 g i (by assumption) (by omega) (by omega)) (cwV 1 hts gX2_sum_X0_valueIn rfl rfl rfl (by decide +kernel) ⟨Nat.le_of_ble_eq_true rfl, Nat.le_of_ble_eq_true rfl⟩) [1, 4, 5] [0, 2, 3] [0, 3, 1, 2, 4, 5] 1 0 rfl rfl rfl rfl rfl (by decide) (by decide) (by decide) (by decide) (fun _ => rfl) rfl rfl (Nat.le_of_ble_eq_true rfl) dX2_sum_31 ⟨(by exact Nat.le_of_ble_eq_true rfl), (by exact Nat.le_of_ble_eq_true rfl)⟩ (fun r_31 u_31 H locs hw_31 hP hD hS => ?_)
        try dsimp only at hw_31
        have hP : va_P D vwCl [(x, .inr (2, [.ref tp, .ref cp, .ref mr, .ref sp, .ref ur, .int rm, .int us, .int aw])), (tp, .inr (0, [.ref tk, .ref tv])), (tk, .inr (1, [.ref tka, .int (nI n)])), (tka, .inl (I, 200, .inl f)), (tv, .inr (1, [.ref tva, .int (nI n)])), (tva, .inl (I, 200, .inl g))] H := hP
        have hD : va_D A [(x, .inr (2, [.ref tp, .ref cp, .ref mr, .ref sp, .ref ur, .int rm, .int us, .int aw])), (tp, .inr (0, [.ref tk, .ref tv])), (tk, .inr (1, [.ref tka, .int (nI n)])), (tka, .inl (I, 200, .inl f)), (tv, .inr (1, [.ref tva, .int (nI n)])), (tva, .inl (I, 200, .inl g))] := hD
        subst hw_31
        refine lv_i2l (v := (g i).toInt64) hx hb dX2_sum_34 rfl ?_
        refine lv_lstore (lv' := [(6, .long ((g i).toInt64)), (4, .long ((f i).toInt64)), (0, .ref x), (1, .long (sumP f g i)), (3, .int (nI i))]) hx hb dX2_sum_35 hl (by decide) rfl (fun ls hl => ?_)
        refine lv_lload_n hx hb dX2_sum_37 rfl (lv_at hl 3 rfl) ?_
        refine lv_ldc2 (v := 1000003) hx hb hown (hts (.constantLong RX2 115 (1000003)) (List.mem_of_getElem? (i := 2) (by decide +kernel))) dX2_sum_38 ?_
        refine lv_lload hx hb dX2_sum_41 (lv_at hl 1 rfl) ?_
        refine lv_lmul hx hb dX2_sum_43 ?_
        refine lv_lload hx hb dX2_sum_44 (lv_at hl 0 rfl) ?_
        refine lv_ladd hx hb dX2_sum_46 ?_
        refine lv_lload hx hb dX2_sum_47 (lv_at hl 0 rfl) ?_
        refine lv_ldc2 (v := 7) hx hb hown (hts (.constantLong RX2 117 (7)) (List.mem_of_getElem? (i := 3) (by decide +kernel))) dX2_sum_49 ?_
        refine lv_lsub hx hb dX2_sum_52 ?_
        refine lv_lmul hx hb dX2_sum_53 ?_
        refine lv_ladd hx hb dX2_sum_54 ?_
        refine lv_lstore_n (lv' := [(1, .long ((sumP f g i) + (((1000003 * ((f i).toInt64)) + ((g i).toInt64)) * (((g i).toInt64) - 7)))), (6, .long ((g i).toInt64)), (4, .long ((f i).toInt64)), (0, .ref x), (3, .int (nI i))]) hx hb dX2_sum_55 rfl hl (by decide) rfl (fun ls hl => ?_)
        refine lv_iinc (v := (nI (i + 1))) (lv' := [(3, .int (nI (i + 1))), (1, .long ((sumP f g i) + (((1000003 * ((f i).toInt64)) + ((g i).toInt64)) * (((g i).toInt64) - 7)))), (6, .long ((g i).toInt64)), (4, .long ((f i).toInt64)), (0, .ref x)]) hx hb dX2_sum_56 hl (k := 4) rfl (by rw [← nI_1]; rfl) (by decide) rfl (fun ls hl => ?_)
        refine lv_goto (tgt := 4) hx hb dX2_sum_59 (by decide) ?_
        exact ih_4  (i + 1) _ (by first | rfl | simp [nI_1, nI_0]) _ (by rfl) (by first | assumption | omega | rfl) (by omega) _ _ hP hD hS ls (lv_sub hl [4, 1, 0] rfl)
  exact loop_4 (n - 0 + 1) 0 _ (by first | rfl | simp [nI_1, nI_0]) _ (by first | rfl | simp [nI_1, nI_0]) (by first | assumption | omega | rfl) (by exact Nat.lt_succ_self _) _ _ hP hD hS ls (lv_sub hl [2, 1, 0] rfl)

set_option maxHeartbeats 4000000 in
set_option maxRecDepth 100000 in
theorem c_X2_size (l : Launch) (D : va_G) (I J : ClassId) (sz : Nat) (x : Nat) (tp : Nat) (cp : Nat) (mr : Nat) (sp : Nat) (ur : Nat) (rm : Int32) (us : Int32) (aw : Int32) (tk : Nat) (tka : Nat) (tv : Nat) (tva : Nat) (n : Nat) (f : Nat → Int32) (g : Nat → Int32) (hn2 : n ≤ 200) : mCi l yX2_size wsX2_size 2 40 0 0 D I J [.ref x] [(x, .inr (2, [.ref tp, .ref cp, .ref mr, .ref sp, .ref ur, .int rm, .int us, .int aw])), (tp, .inr (0, [.ref tk, .ref tv])), (tk, .inr (1, [.ref tka, .int (nI n)])), (tka, .inl (I, 200, .inl f)), (tv, .inr (1, [.ref tva, .int (nI n)])), (tva, .inl (I, 200, .inl g))] sz (fun (x : Int32) (u : Unit) => x = (nI n)) (fun (u : Unit) => [(x, .inr (2, [.ref tp, .ref cp, .ref mr, .ref sp, .ref ur, .int rm, .int us, .int aw])), (tp, .inr (0, [.ref tk, .ref tv])), (tk, .inr (1, [.ref tka, .int (nI n)])), (tka, .inl (I, 200, .inl f)), (tv, .inr (1, [.ref tva, .int (nI n)])), (tva, .inl (I, 200, .inl g))]) := by
  refine m_ofi (cc := cX2_size) (maxL := 1) (ret := (some .int)) (by decide) rfl (Nat.le_of_ble_eq_true rfl) ?_
  intro p e s m args below meth c A ls hx hb hr hlocks hml hts hown hin hK hP hD hA hS hl
  have hl : lv_has ls 1 [(0, .ref x)] := hl
  have hP : va_P D vwCl [(x, .inr (2, [.ref tp, .ref cp, .ref mr, .ref sp, .ref ur, .int rm, .int us, .int aw])), (tp, .inr (0, [.ref tk, .ref tv])), (tk, .inr (1, [.ref tka, .int (nI n)])), (tka, .inl (I, 200, .inl f)), (tv, .inr (1, [.ref tva, .int (nI n)])), (tva, .inl (I, 200, .inl g))] s.heap := hP
  have hD : va_D A [(x, .inr (2, [.ref tp, .ref cp, .ref mr, .ref sp, .ref ur, .int rm, .int us, .int aw])), (tp, .inr (0, [.ref tk, .ref tv])), (tk, .inr (1, [.ref tka, .int (nI n)])), (tka, .inl (I, 200, .inl f)), (tv, .inr (1, [.ref tva, .int (nI n)])), (tva, .inl (I, 200, .inl g))] := hD
  refine lv_aload_n hx hb dX2_size_0 rfl (lv_at hl 0 rfl) ?_
  refine va_get (D := D) (ci := 2) (v := .ref tp) (C := RX2) (T := TX2) (N := 8) hx hb hts (fun _ h => List.mem_cons_of_mem _ (List.mem_append_left _ (List.mem_append_left _ (List.mem_append_right _ h)))) hown hK hP 0 rfl rfl 0 (by decide) (hts (.fieldLink RX2 14 "MapsByUse" "table" "LMapsByUse$Pairs;") (List.mem_of_getElem? (i := 1) (by decide +kernel))) (fun _ h9 => h9) rfl dX2_size_1 ?_
  refine m_Vi (As := []) (wr := [(x, .inr (2, [.ref tp, .ref cp, .ref mr, .ref sp, .ref ur, .int rm, .int us, .int aw])), (tka, .inl (I, 200, .inl f)), (tv, .inr (1, [.ref tva, .int (nI n)])), (tva, .inl (I, 200, .inl g))]) (ws2 := fun _ => [(x, .inr (2, [.ref tp, .ref cp, .ref mr, .ref sp, .ref ur, .int rm, .int us, .int aw])), (tp, .inr (0, [.ref tk, .ref tv])), (tk, .inr (1, [.ref tka, .int (nI n)])), (tka, .inl (I, 200, .inl f)), (tv, .inr (1, [.ref tva, .int (nI n)])), (tva, .inl (I, 200, .inl g))]) ⟨hx, hb, hml, hown, hts⟩ hA hK hP hD hS hl.1 (c_X0_held l D I J s.heap.size tp tk tka tv n ) (cwV 0 hts gX2_size_X0_held rfl rfl rfl (by decide +kernel) ⟨Nat.le_of_ble_eq_true rfl, Nat.le_of_ble_eq_true rfl⟩) [1, 2] [0, 3, 4, 5] [0, 4, 5, 1, 2, 3] 1 0 rfl rfl rfl rfl rfl (by decide) (by decide) (by decide) (by decide) (fun _ => rfl) rfl rfl (Nat.le_of_ble_eq_true rfl) dX2_size_4 ⟨(by exact Nat.le_of_ble_eq_true rfl), (by exact Nat.le_of_ble_eq_true rfl)⟩ (fun r_4 u_4 H locs hw_4 hP hD hS => ?_)
  try dsimp only at hw_4
  have hP : va_P D vwCl [(x, .inr (2, [.ref tp, .ref cp, .ref mr, .ref sp, .ref ur, .int rm, .int us, .int aw])), (tp, .inr (0, [.ref tk, .ref tv])), (tk, .inr (1, [.ref tka, .int (nI n)])), (tka, .inl (I, 200, .inl f)), (tv, .inr (1, [.ref tva, .int (nI n)])), (tva, .inl (I, 200, .inl g))] H := hP
  have hD : va_D A [(x, .inr (2, [.ref tp, .ref cp, .ref mr, .ref sp, .ref ur, .int rm, .int us, .int aw])), (tp, .inr (0, [.ref tk, .ref tv])), (tk, .inr (1, [.ref tka, .int (nI n)])), (tka, .inl (I, 200, .inl f)), (tv, .inr (1, [.ref tva, .int (nI n)])), (tva, .inl (I, 200, .inl g))] := hD
  subst hw_4
  refine m_iret () hx hb hr hlocks hP hD hS dX2_size_7 (by first | exact Nat.le_of_ble_eq_true rfl | omega) (by first | exact Nat.le_of_ble_eq_true rfl | omega) ?_
  rfl

set_option maxHeartbeats 4000000 in
set_option maxRecDepth 100000 in
theorem c_X2_clear (l : Launch) (D : va_G) (I J : ClassId) (sz : Nat) (x : Nat) (tp : Nat) (cp : Nat) (mr : Nat) (sp : Nat) (ur : Nat) (rm : Int32) (us : Int32) (aw : Int32) (tk : Nat) (tka : Nat) (tv : Nat) (tva : Nat) (n : Nat) (f : Nat → Int32) (g : Nat → Int32) (hn2 : n ≤ 200) : mCi l yX2_clear wsX2_clear 2 40 0 0 D I J [.ref x] [(x, .inr (2, [.ref tp, .ref cp, .ref mr, .ref sp, .ref ur, .int rm, .int us, .int aw])), (tp, .inr (0, [.ref tk, .ref tv])), (tk, .inr (1, [.ref tka, .int (nI n)])), (tka, .inl (I, 200, .inl f)), (tv, .inr (1, [.ref tva, .int (nI n)])), (tva, .inl (I, 200, .inl g))] sz (fun (x : Int32) (u : Unit) => x = (nI n)) (fun (u : Unit) => [(x, .inr (2, [.ref tp, .ref cp, .ref mr, .ref sp, .ref ur, .int rm, .int us, .int aw])), (tp, .inr (0, [.ref tk, .ref tv])), (tk, .inr (1, [.ref tka, .int (nI 0)])), (tka, .inl (I, 200, .inl f)), (tv, .inr (1, [.ref tva, .int (nI 0)])), (tva, .inl (I, 200, .inl g))]) := by
  refine m_ofi (cc := cX2_clear) (maxL := 2) (ret := (some .int)) (by decide) rfl (Nat.le_of_ble_eq_true rfl) ?_
  intro p e s m args below meth c A ls hx hb hr hlocks hml hts hown hin hK hP hD hA hS hl
  have hl : lv_has ls 2 [(0, .ref x)] := hl
  have hP : va_P D vwCl [(x, .inr (2, [.ref tp, .ref cp, .ref mr, .ref sp, .ref ur, .int rm, .int us, .int aw])), (tp, .inr (0, [.ref tk, .ref tv])), (tk, .inr (1, [.ref tka, .int (nI n)])), (tka, .inl (I, 200, .inl f)), (tv, .inr (1, [.ref tva, .int (nI n)])), (tva, .inl (I, 200, .inl g))] s.heap := hP
  have hD : va_D A [(x, .inr (2, [.ref tp, .ref cp, .ref mr, .ref sp, .ref ur, .int rm, .int us, .int aw])), (tp, .inr (0, [.ref tk, .ref tv])), (tk, .inr (1, [.ref tka, .int (nI n)])), (tka, .inl (I, 200, .inl f)), (tv, .inr (1, [.ref tva, .int (nI n)])), (tva, .inl (I, 200, .inl g))] := hD
  refine lv_aload_n hx hb dX2_clear_0 rfl (lv_at hl 0 rfl) ?_
  refine va_get (D := D) (ci := 2) (v := .ref tp) (C := RX2) (T := TX2) (N := 8) hx hb hts (fun _ h => List.mem_cons_of_mem _ (List.mem_append_left _ (List.mem_append_left _ (List.mem_append_right _ h)))) hown hK hP 0 rfl rfl 0 (by decide) (hts (.fieldLink RX2 14 "MapsByUse" "table" "LMapsByUse$Pairs;") (List.mem_of_getElem? (i := 1) (by decide +kernel))) (fun _ h9 => h9) rfl dX2_clear_1 ?_
  refine m_Vi (As := []) (wr := [(x, .inr (2, [.ref tp, .ref cp, .ref mr, .ref sp, .ref ur, .int rm, .int us, .int aw])), (tka, .inl (I, 200, .inl f)), (tv, .inr (1, [.ref tva, .int (nI n)])), (tva, .inl (I, 200, .inl g))]) (ws2 := fun _ => [(x, .inr (2, [.ref tp, .ref cp, .ref mr, .ref sp, .ref ur, .int rm, .int us, .int aw])), (tp, .inr (0, [.ref tk, .ref tv])), (tk, .inr (1, [.ref tka, .int (nI n)])), (tka, .inl (I, 200, .inl f)), (tv, .inr (1, [.ref tva, .int (nI n)])), (tva, .inl (I, 200, .inl g))]) ⟨hx, hb, hml, hown, hts⟩ hA hK hP hD hS hl.1 (c_X0_held l D I J s.heap.size tp tk tka tv n ) (cwV 0 hts gX2_clear_X0_held rfl rfl rfl (by decide +kernel) ⟨Nat.le_of_ble_eq_true rfl, Nat.le_of_ble_eq_true rfl⟩) [1, 2] [0, 3, 4, 5] [0, 4, 5, 1, 2, 3] 1 0 rfl rfl rfl rfl rfl (by decide) (by decide) (by decide) (by decide) (fun _ => rfl) rfl rfl (Nat.le_of_ble_eq_true rfl) dX2_clear_4 ⟨(by exact Nat.le_of_ble_eq_true rfl), (by exact Nat.le_of_ble_eq_true rfl)⟩ (fun r_4 u_4 H locs hw_4 hP hD hS => ?_)
  try dsimp only at hw_4
  have hP : va_P D vwCl [(x, .inr (2, [.ref tp, .ref cp, .ref mr, .ref sp, .ref ur, .int rm, .int us, .int aw])), (tp, .inr (0, [.ref tk, .ref tv])), (tk, .inr (1, [.ref tka, .int (nI n)])), (tka, .inl (I, 200, .inl f)), (tv, .inr (1, [.ref tva, .int (nI n)])), (tva, .inl (I, 200, .inl g))] H := hP
  have hD : va_D A [(x, .inr (2, [.ref tp, .ref cp, .ref mr, .ref sp, .ref ur, .int rm, .int us, .int aw])), (tp, .inr (0, [.ref tk, .ref tv])), (tk, .inr (1, [.ref tka, .int (nI n)])), (tka, .inl (I, 200, .inl f)), (tv, .inr (1, [.ref tva, .int (nI n)])), (tva, .inl (I, 200, .inl g))] := hD
  subst hw_4
  refine lv_istore_n (lv' := [(1, .int (nI n)), (0, .ref x)]) hx hb dX2_clear_7 rfl hl (by decide) rfl (fun ls hl => ?_)
  refine lv_aload_n hx hb dX2_clear_8 rfl (lv_at hl 1 rfl) ?_
  refine va_get (D := D) (ci := 2) (v := .ref tp) (C := RX2) (T := TX2) (N := 8) hx hb hts (fun _ h => List.mem_cons_of_mem _ (List.mem_append_left _ (List.mem_append_left _ (List.mem_append_right _ h)))) hown hK hP 0 rfl rfl 0 (by decide) (hts (.fieldLink RX2 14 "MapsByUse" "table" "LMapsByUse$Pairs;") (List.mem_of_getElem? (i := 1) (by decide +kernel))) (fun _ h9 => h9) rfl dX2_clear_9 ?_
  refine m_Vv (As := []) (wr := [(x, .inr (2, [.ref tp, .ref cp, .ref mr, .ref sp, .ref ur, .int rm, .int us, .int aw])), (tka, .inl (I, 200, .inl f)), (tva, .inl (I, 200, .inl g))]) (ws2 := fun _ => [(x, .inr (2, [.ref tp, .ref cp, .ref mr, .ref sp, .ref ur, .int rm, .int us, .int aw])), (tp, .inr (0, [.ref tk, .ref tv])), (tk, .inr (1, [.ref tka, .int (nI 0)])), (tka, .inl (I, 200, .inl f)), (tv, .inr (1, [.ref tva, .int (nI 0)])), (tva, .inl (I, 200, .inl g))]) ⟨hx, hb, hml, hown, hts⟩ hA hK hP hD hS hl.1 (c_X0_empty l D I J H.size tp tk tka tv tva n ) (cwV 0 hts gX2_clear_X0_empty rfl rfl rfl (by decide +kernel) ⟨Nat.le_of_ble_eq_true rfl, Nat.le_of_ble_eq_true rfl⟩) [1, 2, 4] [0, 3, 5] [0, 3, 4, 1, 5, 2] 1 0 rfl rfl rfl rfl rfl (by decide) (by decide) (by decide) (by decide) (fun _ => rfl) rfl rfl (Nat.le_of_ble_eq_true rfl) dX2_clear_12 ⟨(by exact Nat.le_of_ble_eq_true rfl), (by exact Nat.le_of_ble_eq_true rfl)⟩ (fun u_12 H locs hw_12 hP hD hS => ?_)
  clear hw_12
  have hP : va_P D vwCl [(x, .inr (2, [.ref tp, .ref cp, .ref mr, .ref sp, .ref ur, .int rm, .int us, .int aw])), (tp, .inr (0, [.ref tk, .ref tv])), (tk, .inr (1, [.ref tka, .int (nI 0)])), (tka, .inl (I, 200, .inl f)), (tv, .inr (1, [.ref tva, .int (nI 0)])), (tva, .inl (I, 200, .inl g))] H := hP
  have hD : va_D A [(x, .inr (2, [.ref tp, .ref cp, .ref mr, .ref sp, .ref ur, .int rm, .int us, .int aw])), (tp, .inr (0, [.ref tk, .ref tv])), (tk, .inr (1, [.ref tka, .int (nI 0)])), (tka, .inl (I, 200, .inl f)), (tv, .inr (1, [.ref tva, .int (nI 0)])), (tva, .inl (I, 200, .inl g))] := hD
  refine lv_iload_n hx hb dX2_clear_15 rfl (lv_at hl 0 rfl) ?_
  refine m_iret () hx hb hr hlocks hP hD hS dX2_clear_16 (by first | exact Nat.le_of_ble_eq_true rfl | omega) (by first | exact Nat.le_of_ble_eq_true rfl | omega) ?_
  rfl

set_option maxHeartbeats 4000000 in
set_option maxRecDepth 100000 in
theorem c_X2_dropBelow (l : Launch) (D : va_G) (I J : ClassId) (sz : Nat) (x : Nat) (tp : Nat) (cp : Nat) (mr : Nat) (sp : Nat) (ur : Nat) (rm : Int32) (us : Int32) (aw : Int32) (tk : Nat) (tka : Nat) (tv : Nat) (tva : Nat) (n : Nat) (f : Nat → Int32) (g : Nat → Int32) (least : Int32) (hn2 : n ≤ 200) : mCi l yX2_dropBelow wsX2_dropBelow 3 63 0 0 D I J [.ref x, .int least] [(x, .inr (2, [.ref tp, .ref cp, .ref mr, .ref sp, .ref ur, .int rm, .int us, .int aw])), (tp, .inr (0, [.ref tk, .ref tv])), (tk, .inr (1, [.ref tka, .int (nI n)])), (tka, .inl (I, 200, .inl f)), (tv, .inr (1, [.ref tva, .int (nI n)])), (tva, .inl (I, 200, .inl g))] sz (fun (x : Int32) (u : Unit) => x = (nI (n - (dropW (fun _ v => decide (v < least)) n (f, g, n)).2.2))) (fun (u : Unit) => [(x, .inr (2, [.ref tp, .ref cp, .ref mr, .ref sp, .ref ur, .int rm, .int us, .int aw])), (tp, .inr (0, [.ref tk, .ref tv])), (tk, .inr (1, [.ref tka, .int (nI ((dropW (fun _ v => decide (v < least)) n (f, g, n)).2.2))])), (tka, .inl (I, 200, .inl ((dropW (fun _ v => decide (v < least)) n (f, g, n)).1))), (tv, .inr (1, [.ref tva, .int (nI ((dropW (fun _ v => decide (v < least)) n (f, g, n)).2.2))])), (tva, .inl (I, 200, .inl ((dropW (fun _ v => decide (v < least)) n (f, g, n)).2.1)))]) := by
  refine m_ofi (cc := cX2_dropBelow) (maxL := 4) (ret := (some .int)) (by decide) rfl (Nat.le_of_ble_eq_true rfl) ?_
  intro p e s m args below meth c A ls hx hb hr hlocks hml hts hown hin hK hP hD hA hS hl
  have hl : lv_has ls 4 [(0, .ref x), (1, .int least)] := hl
  have hP : va_P D vwCl [(x, .inr (2, [.ref tp, .ref cp, .ref mr, .ref sp, .ref ur, .int rm, .int us, .int aw])), (tp, .inr (0, [.ref tk, .ref tv])), (tk, .inr (1, [.ref tka, .int (nI n)])), (tka, .inl (I, 200, .inl f)), (tv, .inr (1, [.ref tva, .int (nI n)])), (tva, .inl (I, 200, .inl g))] s.heap := hP
  have hD : va_D A [(x, .inr (2, [.ref tp, .ref cp, .ref mr, .ref sp, .ref ur, .int rm, .int us, .int aw])), (tp, .inr (0, [.ref tk, .ref tv])), (tk, .inr (1, [.ref tka, .int (nI n)])), (tka, .inl (I, 200, .inl f)), (tv, .inr (1, [.ref tva, .int (nI n)])), (tva, .inl (I, 200, .inl g))] := hD
  refine lv_aload_n hx hb dX2_dropBelow_0 rfl (lv_at hl 0 rfl) ?_
  refine va_get (D := D) (ci := 2) (v := .ref tp) (C := RX2) (T := TX2) (N := 8) hx hb hts (fun _ h => List.mem_cons_of_mem _ (List.mem_append_left _ (List.mem_append_left _ (List.mem_append_right _ h)))) hown hK hP 0 rfl rfl 0 (by decide) (hts (.fieldLink RX2 14 "MapsByUse" "table" "LMapsByUse$Pairs;") (List.mem_of_getElem? (i := 1) (by decide +kernel))) (fun _ h9 => h9) rfl dX2_dropBelow_1 ?_
  refine m_Vi (As := []) (wr := [(x, .inr (2, [.ref tp, .ref cp, .ref mr, .ref sp, .ref ur, .int rm, .int us, .int aw])), (tka, .inl (I, 200, .inl f)), (tv, .inr (1, [.ref tva, .int (nI n)])), (tva, .inl (I, 200, .inl g))]) (ws2 := fun _ => [(x, .inr (2, [.ref tp, .ref cp, .ref mr, .ref sp, .ref ur, .int rm, .int us, .int aw])), (tp, .inr (0, [.ref tk, .ref tv])), (tk, .inr (1, [.ref tka, .int (nI n)])), (tka, .inl (I, 200, .inl f)), (tv, .inr (1, [.ref tva, .int (nI n)])), (tva, .inl (I, 200, .inl g))]) ⟨hx, hb, hml, hown, hts⟩ hA hK hP hD hS hl.1 (c_X0_held l D I J s.heap.size tp tk tka tv n ) (cwV 0 hts gX2_dropBelow_X0_held rfl rfl rfl (by decide +kernel) ⟨Nat.le_of_ble_eq_true rfl, Nat.le_of_ble_eq_true rfl⟩) [1, 2] [0, 3, 4, 5] [0, 4, 5, 1, 2, 3] 1 0 rfl rfl rfl rfl rfl (by decide) (by decide) (by decide) (by decide) (fun _ => rfl) rfl rfl (Nat.le_of_ble_eq_true rfl) dX2_dropBelow_4 ⟨(by exact Nat.le_of_ble_eq_true rfl), (by exact Nat.le_of_ble_eq_true rfl)⟩ (fun r_4 u_4 H locs hw_4 hP hD hS => ?_)
  try dsimp only at hw_4
  have hP : va_P D vwCl [(x, .inr (2, [.ref tp, .ref cp, .ref mr, .ref sp, .ref ur, .int rm, .int us, .int aw])), (tp, .inr (0, [.ref tk, .ref tv])), (tk, .inr (1, [.ref tka, .int (nI n)])), (tka, .inl (I, 200, .inl f)), (tv, .inr (1, [.ref tva, .int (nI n)])), (tva, .inl (I, 200, .inl g))] H := hP
  have hD : va_D A [(x, .inr (2, [.ref tp, .ref cp, .ref mr, .ref sp, .ref ur, .int rm, .int us, .int aw])), (tp, .inr (0, [.ref tk, .ref tv])), (tk, .inr (1, [.ref tka, .int (nI n)])), (tka, .inl (I, 200, .inl f)), (tv, .inr (1, [.ref tva, .int (nI n)])), (tva, .inl (I, 200, .inl g))] := hD
  subst hw_4
  refine lv_istore_n (lv' := [(2, .int (nI n)), (0, .ref x), (1, .int least)]) hx hb dX2_dropBelow_7 rfl hl (by decide) rfl (fun ls hl => ?_)
  refine lv_iload_n hx hb dX2_dropBelow_8 rfl (lv_at hl 0 rfl) ?_
  refine lv_iconst (v := 1) hx hb dX2_dropBelow_9 (by decide) ?_
  refine lv_isub hx hb dX2_dropBelow_10 ?_
  refine lv_istore_n (lv' := [(3, .int ((nI n) - 1)), (2, .int (nI n)), (0, .ref x), (1, .int least)]) hx hb dX2_dropBelow_11 rfl hl (by decide) rfl (fun ls hl => ?_)
  have loop_12 : ∀ (k_12 : Nat) (i : Nat) (n1 : Nat) (f1 : Nat → Int32) (g1 : Nat → Int32) (x_3 : Int32) (ex_3 : x_3 = (nI i - 1)) (hi : i ≤ n1) (hn1 : n1 ≤ n) (hd : dropW (fun _ v => decide (v < least)) n (f, g, n) = dropW (fun _ v => decide (v < least)) i (f1, g1, n1)) (hm_ : i < k_12) (H : Heap) (locs : List Loc) (hP : va_P D vwCl [(x, .inr (2, [.ref tp, .ref cp, .ref mr, .ref sp, .ref ur, .int rm, .int us, .int aw])), (tp, .inr (0, [.ref tk, .ref tv])), (tk, .inr (1, [.ref tka, .int (nI n1)])), (tka, .inl (I, 200, .inl f1)), (tv, .inr (1, [.ref tva, .int (nI n1)])), (tva, .inl (I, 200, .inl g1))] H) (hD : va_D A [(x, .inr (2, [.ref tp, .ref cp, .ref mr, .ref sp, .ref ur, .int rm, .int us, .int aw])), (tp, .inr (0, [.ref tk, .ref tv])), (tk, .inr (1, [.ref tka, .int (nI n1)])), (tka, .inl (I, 200, .inl f1)), (tv, .inr (1, [.ref tva, .int (nI n1)])), (tva, .inl (I, 200, .inl g1))]) (hS : va_S A s.heap H locs) (ls : Array Slot) (hl : lv_has ls 4 [(0, .ref x), (1, .int least), (2, .int (nI n)), (3, .int x_3)]), W p l e (mRm 3 63 0 0) s m args below meth c H locs 0 0 (MQ below (va_Qi (fun (x : Int32) (u : Unit) => x = (nI (n - (dropW (fun _ v => decide (v < least)) n (f, g, n)).2.2))) (mB D (fun (u : Unit) => [(x, .inr (2, [.ref tp, .ref cp, .ref mr, .ref sp, .ref ur, .int rm, .int us, .int aw])), (tp, .inr (0, [.ref tk, .ref tv])), (tk, .inr (1, [.ref tka, .int (nI ((dropW (fun _ v => decide (v < least)) n (f, g, n)).2.2))])), (tka, .inl (I, 200, .inl ((dropW (fun _ v => decide (v < least)) n (f, g, n)).1))), (tv, .inr (1, [.ref tva, .int (nI ((dropW (fun _ v => decide (v < least)) n (f, g, n)).2.2))])), (tva, .inl (I, 200, .inl ((dropW (fun _ v => decide (v < least)) n (f, g, n)).2.1)))]) A) A) args s 0 0 A) (F0 m 12 ls []) := by
    intro k_12
    induction k_12 with
    | zero => intro i n1 f1 g1 x_3 ex_3 hi hn1 hd hm_; exact absurd hm_ (Nat.not_lt_zero _)
    | succ k_12 ih_12 =>
      intro i n1 f1 g1 x_3 ex_3 hi hn1 hd hm_ H locs hP hD hS ls hl
      subst ex_3
      refine lv_iload_n hx hb dX2_dropBelow_12 rfl (lv_at hl 3 rfl) ?_
      refine lv_if_lt (tgt := 42) hx hb dX2_dropBelow_13 (by decide) (fun c_13 => ?_) (fun c_13 => ?_)
      · --L1213T
        have e : i = 0 := by
          rcases Nat.eq_zero_or_pos i with q | q
          · exact q
          · obtain ⟨j, rfl⟩ : ∃ j, i = j + 1 := ⟨i - 1, by omega⟩
            rw [nI_pred] at c_13
            exact absurd c_13 (nI_pos (by omega))
        subst e
        have hd : (dropW (fun _ v => decide (v < least)) n (f, g, n)) = (f1, g1, n1) := hd
        refine lv_iload_n hx hb dX2_dropBelow_42 rfl (lv_at hl 2 rfl) ?_
        refine lv_aload_n hx hb dX2_dropBelow_43 rfl (lv_at hl 0 rfl) ?_
        refine va_get (D := D) (ci := 2) (v := .ref tp) (C := RX2) (T := TX2) (N := 8) hx hb hts (fun _ h => List.mem_cons_of_mem _ (List.mem_append_left _ (List.mem_append_left _ (List.mem_append_right _ h)))) hown hK hP 0 rfl rfl 0 (by decide) (hts (.fieldLink RX2 14 "MapsByUse" "table" "LMapsByUse$Pairs;") (List.mem_of_getElem? (i := 1) (by decide +kernel))) (fun _ h9 => h9) rfl dX2_dropBelow_44 ?_
        refine m_Vi (As := []) (wr := [(x, .inr (2, [.ref tp, .ref cp, .ref mr, .ref sp, .ref ur, .int rm, .int us, .int aw])), (tka, .inl (I, 200, .inl f1)), (tv, .inr (1, [.ref tva, .int (nI n1)])), (tva, .inl (I, 200, .inl g1))]) (ws2 := fun _ => [(x, .inr (2, [.ref tp, .ref cp, .ref mr, .ref sp, .ref ur, .int rm, .int us, .int aw])), (tp, .inr (0, [.ref tk, .ref tv])), (tk, .inr (1, [.ref tka, .int (nI n1)])), (tka, .inl (I, 200, .inl f1)), (tv, .inr (1, [.ref tva, .int (nI n1)])), (tva, .inl (I, 200, .inl g1))]) ⟨hx, hb, hml, hown, hts⟩ hA hK hP hD hS hl.1 (c_X0_held l D I J H.size tp tk tka tv n1 ) (cwV 0 hts gX2_dropBelow_X0_held rfl rfl rfl (by decide +kernel) ⟨Nat.le_of_ble_eq_true rfl, Nat.le_of_ble_eq_true rfl⟩) [1, 2] [0, 3, 4, 5] [0, 4, 5, 1, 2, 3] 1 0 rfl rfl rfl rfl rfl (by decide) (by decide) (by decide) (by decide) (fun _ => rfl) rfl rfl (Nat.le_of_ble_eq_true rfl) dX2_dropBelow_47 ⟨(by exact Nat.le_of_ble_eq_true rfl), (by exact Nat.le_of_ble_eq_true rfl)⟩ (fun r_47 u_47 H locs hw_47 hP hD hS => ?_)
        try dsimp only at hw_47
        have hP : va_P D vwCl [(x, .inr (2, [.ref tp, .ref cp, .ref mr, .ref sp, .ref ur, .int rm, .int us, .int aw])), (tp, .inr (0, [.ref tk, .ref tv])), (tk, .inr (1, [.ref tka, .int (nI n1)])), (tka, .inl (I, 200, .inl f1)), (tv, .inr (1, [.ref tva, .int (nI n1)])), (tva, .inl (I, 200, .inl g1))] H := hP
        have hD : va_D A [(x, .inr (2, [.ref tp, .ref cp, .ref mr, .ref sp, .ref ur, .int rm, .int us, .int aw])), (tp, .inr (0, [.ref tk, .ref tv])), (tk, .inr (1, [.ref tka, .int (nI n1)])), (tka, .inl (I, 200, .inl f1)), (tv, .inr (1, [.ref tva, .int (nI n1)])), (tva, .inl (I, 200, .inl g1))] := hD
        subst hw_47
        refine lv_isub hx hb dX2_dropBelow_50 ?_
        refine m_topi (y := (nI (n - n1))) (by exact pk_sub (by omega)) ?_
        have hEq : [(x, .inr (2, [.ref tp, .ref cp, .ref mr, .ref sp, .ref ur, .int rm, .int us, .int aw])), (tp, .inr (0, [.ref tk, .ref tv])), (tk, .inr (1, [.ref tka, .int (nI n1)])), (tka, .inl (I, 200, .inl f1)), (tv, .inr (1, [.ref tva, .int (nI n1)])), (tva, .inl (I, 200, .inl g1))] = ([(x, .inr (2, [.ref tp, .ref cp, .ref mr, .ref sp, .ref ur, .int rm, .int us, .int aw])), (tp, .inr (0, [.ref tk, .ref tv])), (tk, .inr (1, [.ref tka, .int (nI ((dropW (fun _ v => decide (v < least)) n (f, g, n)).2.2))])), (tka, .inl (I, 200, .inl ((dropW (fun _ v => decide (v < least)) n (f, g, n)).1))), (tv, .inr (1, [.ref tva, .int (nI ((dropW (fun _ v => decide (v < least)) n (f, g, n)).2.2))])), (tva, .inl (I, 200, .inl ((dropW (fun _ v => decide (v < least)) n (f, g, n)).2.1)))] : va_W) := (by simp only [hd])
        rw [hEq] at hP hD
        refine m_iret () hx hb hr hlocks hP hD hS dX2_dropBelow_51 (by first | exact Nat.le_of_ble_eq_true rfl | omega) (by first | exact Nat.le_of_ble_eq_true rfl | omega) ?_
        rw [hd]
      · --L1213F
        obtain ⟨i, rfl⟩ : ∃ j, i = j + 1 := ⟨i - 1, by
          rcases Nat.eq_zero_or_pos i with q | q
          · subst q; exact absurd (by decide) c_13
          · omega⟩
        rw [nI_pred] at hl
        refine lv_aload_n hx hb dX2_dropBelow_16 rfl (lv_at hl 0 rfl) ?_
        refine va_get (D := D) (ci := 2) (v := .ref tp) (C := RX2) (T := TX2) (N := 8) hx hb hts (fun _ h => List.mem_cons_of_mem _ (List.mem_append_left _ (List.mem_append_left _ (List.mem_append_right _ h)))) hown hK hP 0 rfl rfl 0 (by decide) (hts (.fieldLink RX2 14 "MapsByUse" "table" "LMapsByUse$Pairs;") (List.mem_of_getElem? (i := 1) (by decide +kernel))) (fun _ h9 => h9) rfl dX2_dropBelow_17 ?_
        refine lv_iload_n hx hb dX2_dropBelow_20 rfl (lv_at hl 3 rfl) ?_
        refine m_Vi (As := [.int (nI i)]) (wr := [(x, .inr (2, [.ref tp, .ref cp, .ref mr, .ref sp, .ref ur, .int rm, .int us, .int aw])), (tk, .inr (1, [.ref tka, .int (nI n1)])), (tka, .inl (I, 200, .inl f1))]) (ws2 := fun _ => [(x, .inr (2, [.ref tp, .ref cp, .ref mr, .ref sp, .ref ur, .int rm, .int us, .int aw])), (tp, .inr (0, [.ref tk, .ref tv])), (tk, .inr (1, [.ref tka, .int (nI n1)])), (tka, .inl (I, 200, .inl f1)), (tv, .inr (1, [.ref tva, .int (nI n1)])), (tva, .inl (I, 200, .inl g1))]) ⟨hx, hb, hml, hown, hts⟩ hA hK hP hD hS hl.1 (c_X0_valueIn l D I J H.size tp tk tv tva n1 200 g1 i (by assumption) (by omega) (by omega)) (cwV 1 hts gX2_dropBelow_X0_valueIn rfl rfl rfl (by decide +kernel) ⟨Nat.le_of_ble_eq_true rfl, Nat.le_of_ble_eq_true rfl⟩) [1, 4, 5] [0, 2, 3] [0, 3, 1, 2, 4, 5] 1 0 rfl rfl rfl rfl rfl (by decide) (by decide) (by decide) (by decide) (fun _ => rfl) rfl rfl (Nat.le_of_ble_eq_true rfl) dX2_dropBelow_21 ⟨(by exact Nat.le_of_ble_eq_true rfl), (by exact Nat.le_of_ble_eq_true rfl)⟩ (fun r_21 u_21 H locs hw_21 hP hD hS => ?_)
        try dsimp only at hw_21
        have hP : va_P D vwCl [(x, .inr (2, [.ref tp, .ref cp, .ref mr, .ref sp, .ref ur, .int rm, .int us, .int aw])), (tp, .inr (0, [.ref tk, .ref tv])), (tk, .inr (1, [.ref tka, .int (nI n1)])), (tka, .inl (I, 200, .inl f1)), (tv, .inr (1, [.ref tva, .int (nI n1)])), (tva, .inl (I, 200, .inl g1))] H := hP
        have hD : va_D A [(x, .inr (2, [.ref tp, .ref cp, .ref mr, .ref sp, .ref ur, .int rm, .int us, .int aw])), (tp, .inr (0, [.ref tk, .ref tv])), (tk, .inr (1, [.ref tka, .int (nI n1)])), (tka, .inl (I, 200, .inl f1)), (tv, .inr (1, [.ref tva, .int (nI n1)])), (tva, .inl (I, 200, .inl g1))] := hD
        subst hw_21
        refine lv_iload_n hx hb dX2_dropBelow_24 rfl (lv_at hl 1 rfl) ?_
        refine lv_icmp_ge (tgt := 36) hx hb dX2_dropBelow_25 (by decide) (fun c_25 => ?_) (fun c_25 => ?_)
        · --L1213F25T
          refine lv_iinc (v := ((nI i) + (-1))) (lv' := [(3, .int ((nI i) + (-1))), (0, .ref x), (1, .int least), (2, .int (nI n))]) hx hb dX2_dropBelow_36 hl (k := 3) rfl rfl (by decide) rfl (fun ls hl => ?_)
          refine lv_goto (tgt := 12) hx hb dX2_dropBelow_39 (by decide) ?_
          exact ih_12  i n1 f1 g1 _ (by exact (Int32.sub_eq_add_neg _ _).symm) (by omega) (by omega) (by exact hd.trans (congrArg (dropW _ i) (if_neg (fun q => absurd (of_decide_eq_true q) (Int32.not_lt.mpr c_25))))) (by omega) _ _ hP hD hS ls (lv_sub hl [1, 2, 3, 0] rfl)
        · --L1213F25F
          refine lv_aload_n hx hb dX2_dropBelow_28 rfl (lv_at hl 0 rfl) ?_
          refine va_get (D := D) (ci := 2) (v := .ref tp) (C := RX2) (T := TX2) (N := 8) hx hb hts (fun _ h => List.mem_cons_of_mem _ (List.mem_append_left _ (List.mem_append_left _ (List.mem_append_right _ h)))) hown hK hP 0 rfl rfl 0 (by decide) (hts (.fieldLink RX2 14 "MapsByUse" "table" "LMapsByUse$Pairs;") (List.mem_of_getElem? (i := 1) (by decide +kernel))) (fun _ h9 => h9) rfl dX2_dropBelow_29 ?_
          refine lv_iload_n hx hb dX2_dropBelow_32 rfl (lv_at hl 3 rfl) ?_
          refine m_Vv (As := [.int (nI i)]) (wr := [(x, .inr (2, [.ref tp, .ref cp, .ref mr, .ref sp, .ref ur, .int rm, .int us, .int aw]))]) (ws2 := fun _ => [(x, .inr (2, [.ref tp, .ref cp, .ref mr, .ref sp, .ref ur, .int rm, .int us, .int aw])), (tp, .inr (0, [.ref tk, .ref tv])), (tk, .inr (1, [.ref tka, .int (nI (delN n1 (some i)))])), (tka, .inl (I, 200, .inl (delF f1 n1 (some i)))), (tv, .inr (1, [.ref tva, .int (nI (delN n1 (some i)))])), (tva, .inl (I, 200, .inl (delF g1 n1 (some i))))]) ⟨hx, hb, hml, hown, hts⟩ hA hK hP hD hS hl.1 (c_X0_cutOut l D I J H.size tp tk tka tv tva n1 200 f1 g1 (some i) (by intro j hj; cases hj; omega) (by omega) (by omega)) (cwV 1 hts gX2_dropBelow_X0_cutOut rfl rfl rfl (by decide +kernel) ⟨Nat.le_of_ble_eq_true rfl, Nat.le_of_ble_eq_true rfl⟩) [1, 2, 3, 4, 5] [0] [0, 1, 2, 3, 4, 5] 1 0 rfl rfl rfl rfl rfl (by decide) (by decide) (by decide) (by decide) (fun _ => rfl) rfl rfl (Nat.le_of_ble_eq_true rfl) dX2_dropBelow_33 ⟨(by exact Nat.le_of_ble_eq_true rfl), (by exact Nat.le_of_ble_eq_true rfl)⟩ (fun u_33 H locs hw_33 hP hD hS => ?_)
          clear hw_33
          have hP : va_P D vwCl [(x, .inr (2, [.ref tp, .ref cp, .ref mr, .ref sp, .ref ur, .int rm, .int us, .int aw])), (tp, .inr (0, [.ref tk, .ref tv])), (tk, .inr (1, [.ref tka, .int (nI (delN n1 (some i)))])), (tka, .inl (I, 200, .inl (delF f1 n1 (some i)))), (tv, .inr (1, [.ref tva, .int (nI (delN n1 (some i)))])), (tva, .inl (I, 200, .inl (delF g1 n1 (some i))))] H := hP
          have hD : va_D A [(x, .inr (2, [.ref tp, .ref cp, .ref mr, .ref sp, .ref ur, .int rm, .int us, .int aw])), (tp, .inr (0, [.ref tk, .ref tv])), (tk, .inr (1, [.ref tka, .int (nI (delN n1 (some i)))])), (tka, .inl (I, 200, .inl (delF f1 n1 (some i)))), (tv, .inr (1, [.ref tva, .int (nI (delN n1 (some i)))])), (tva, .inl (I, 200, .inl (delF g1 n1 (some i))))] := hD
          refine lv_iinc (v := ((nI i) + (-1))) (lv' := [(3, .int ((nI i) + (-1))), (0, .ref x), (1, .int least), (2, .int (nI n))]) hx hb dX2_dropBelow_36 hl (k := 3) rfl rfl (by decide) rfl (fun ls hl => ?_)
          refine lv_goto (tgt := 12) hx hb dX2_dropBelow_39 (by decide) ?_
          exact ih_12  i (n1 - 1) (cutF f1 n1 i) (cutF g1 n1 i) _ (by exact (Int32.sub_eq_add_neg _ _).symm) (by omega) (by omega) (by exact hd.trans (congrArg (dropW _ i) (if_pos (decide_eq_true (Int32.not_le.mp c_25))))) (by omega) _ _ hP hD hS ls (lv_sub hl [1, 2, 3, 0] rfl)
  exact loop_12 (n + 1) n n f g _ (by first | rfl | simp [nI_1, nI_0]) (by exact Nat.le_refl _) (by exact Nat.le_refl _) (by rfl) (by exact Nat.lt_succ_self _) _ _ hP hD hS ls (lv_sub hl [2, 3, 1, 0] rfl)
