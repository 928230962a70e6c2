set_option maxHeartbeats 4000000 in
set_option maxRecDepth 100000 in
theorem c_X3_thrown (l : Launch) (D : va_G) (I J : ClassId) (sz : Nat) (yZ : Nat) (akZ : Nat) (avZ : Nat) (awZ : Nat) (aoZ : Nat) (amZ : Nat) (lkZ : Nat) (lvZ : Nat) (luZ : Nat) (ipZ : Int32) (iwZ : Int32) (imZ : Int32) (ilZ : Int32) (irZ : Int32) (iuZ : Int32) (iaZ : Int32) (icZ : Int32)  : mCi l yX3_thrown wsX3_thrown 0 0 0 0 D I J [.ref yZ] [(yZ, .inr (3, [.ref akZ, .ref avZ, .ref awZ, .ref aoZ, .ref amZ, .ref lkZ, .ref lvZ, .ref luZ, .int ipZ, .int iwZ, .int imZ, .int ilZ, .int irZ, .int iuZ, .int iaZ, .int icZ]))] sz (fun (x : Int32) (u : Unit) => x = icZ) (fun (u : Unit) => [(yZ, .inr (3, [.ref akZ, .ref avZ, .ref awZ, .ref aoZ, .ref amZ, .ref lkZ, .ref lvZ, .ref luZ, .int ipZ, .int iwZ, .int imZ, .int ilZ, .int irZ, .int iuZ, .int iaZ, .int icZ]))]) := by
  refine m_ofi (cc := cX3_thrown) (maxL := 1) (ret := (some .int)) (by decide) rfl (Nat.le_of_ble_eq_true rfl) ?_
  intro p e s m args below meth c A ls hx hb hr hlocks hml hts hown hin hK hP hD hA hS hl
  have hl : lv_has ls 1 [(0, .ref yZ)] := hl
  have hP : va_P D vwCl [(yZ, .inr (3, [.ref akZ, .ref avZ, .ref awZ, .ref aoZ, .ref amZ, .ref lkZ, .ref lvZ, .ref luZ, .int ipZ, .int iwZ, .int imZ, .int ilZ, .int irZ, .int iuZ, .int iaZ, .int icZ]))] s.heap := hP
  have hD : va_D A [(yZ, .inr (3, [.ref akZ, .ref avZ, .ref awZ, .ref aoZ, .ref amZ, .ref lkZ, .ref lvZ, .ref luZ, .int ipZ, .int iwZ, .int imZ, .int ilZ, .int irZ, .int iuZ, .int iaZ, .int icZ]))] := hD
  refine lv_aload_n hx hb dX3_thrown_0 rfl (lv_at hl 0 rfl) ?_
  refine va_get (D := D) (ci := 3) (v := .int icZ) (C := RX3) (T := TX3) (N := 16) hx hb hts (fun _ h => List.mem_cons_of_mem _ (List.mem_append_right _ h)) hown hK hP 0 rfl rfl 15 (by decide) (hts (.fieldLink RX3 38 "MapsByUseModel" "code" "I") (List.mem_of_getElem? (i := 1) (by decide +kernel))) (fun _ h9 => h9) rfl dX3_thrown_1 ?_
  refine m_iret () hx hb hr hlocks hP hD hS dX3_thrown_4 (by first | exact Nat.le_of_ble_eq_true rfl | omega) (by first | exact Nat.le_of_ble_eq_true rfl | omega) ?_
  rfl

set_option maxHeartbeats 4000000 in
set_option maxRecDepth 100000 in
theorem c_X3_fails (l : Launch) (D : va_G) (I J : ClassId) (sz : Nat) (yZ : Nat) (akZ : Nat) (avZ : Nat) (awZ : Nat) (aoZ : Nat) (amZ : Nat) (lkZ : Nat) (lvZ : Nat) (luZ : Nat) (ipZ : Int32) (iwZ : Int32) (imZ : Int32) (ilZ : Int32) (irZ : Int32) (iuZ : Int32) (iaZ : Int32) (icZ : Int32) (pl9Z : Int32)  : mCi l yX3_fails wsX3_fails 0 0 0 0 D I J [.ref yZ, .int pl9Z] [(yZ, .inr (3, [.ref akZ, .ref avZ, .ref awZ, .ref aoZ, .ref amZ, .ref lkZ, .ref lvZ, .ref luZ, .int ipZ, .int iwZ, .int imZ, .int ilZ, .int irZ, .int iuZ, .int iaZ, .int icZ]))] sz (fun (x : Int32) (u : Unit) => x = (bI (decide ((0 : Int32) < pl9Z)))) (fun (u : Unit) => [(yZ, .inr (3, [.ref akZ, .ref avZ, .ref awZ, .ref aoZ, .ref amZ, .ref lkZ, .ref lvZ, .ref luZ, .int ipZ, .int iwZ, .int imZ, .int ilZ, .int irZ, .int iuZ, .int iaZ, .int pl9Z]))]) := by
  refine m_ofi (cc := cX3_fails) (maxL := 2) (ret := (some .boolean)) (by decide) rfl (Nat.le_of_ble_eq_true rfl) ?_
  intro p e s m args below meth c A ls hx hb hr hlocks hml hts hown hin hK hP hD hA hS hl
  have hl : lv_has ls 2 [(0, .ref yZ), (1, .int pl9Z)] := hl
  have hP : va_P D vwCl [(yZ, .inr (3, [.ref akZ, .ref avZ, .ref awZ, .ref aoZ, .ref amZ, .ref lkZ, .ref lvZ, .ref luZ, .int ipZ, .int iwZ, .int imZ, .int ilZ, .int irZ, .int iuZ, .int iaZ, .int icZ]))] s.heap := hP
  have hD : va_D A [(yZ, .inr (3, [.ref akZ, .ref avZ, .ref awZ, .ref aoZ, .ref amZ, .ref lkZ, .ref lvZ, .ref luZ, .int ipZ, .int iwZ, .int imZ, .int ilZ, .int irZ, .int iuZ, .int iaZ, .int icZ]))] := hD
  refine lv_aload_n hx hb dX3_fails_0 rfl (lv_at hl 0 rfl) ?_
  refine lv_iload_n hx hb dX3_fails_1 rfl (lv_at hl 1 rfl) ?_
  refine va_put (D := D) (ci := 3) (v := .int pl9Z) (ty := .int) (C := RX3) (T := TX3) (N := 16) hx hb hts (fun _ h => List.mem_cons_of_mem _ (List.mem_append_right _ h)) tyX3 tyX3_ok nmX3 hown hK hP hD hS 0 rfl rfl 15 (by decide) (hts (.fieldLink RX3 38 "MapsByUseModel" "code" "I") (List.mem_of_getElem? (i := 1) (by decide +kernel))) (fun _ h9 => h9) rfl (by decide +kernel) rfl rfl (Nat.le_of_ble_eq_true rfl) dX3_fails_2 (fun H locs hP hD hS => ?_)
  have hP : va_P D vwCl [(yZ, .inr (3, [.ref akZ, .ref avZ, .ref awZ, .ref aoZ, .ref amZ, .ref lkZ, .ref lvZ, .ref luZ, .int ipZ, .int iwZ, .int imZ, .int ilZ, .int irZ, .int iuZ, .int iaZ, .int pl9Z]))] H := hP
  have hD : va_D A [(yZ, .inr (3, [.ref akZ, .ref avZ, .ref awZ, .ref aoZ, .ref amZ, .ref lkZ, .ref lvZ, .ref luZ, .int ipZ, .int iwZ, .int imZ, .int ilZ, .int irZ, .int iuZ, .int iaZ, .int pl9Z]))] := hD
  refine lv_iload_n hx hb dX3_fails_5 rfl (lv_at hl 1 rfl) ?_
  refine lv_if_le (tgt := 13) hx hb dX3_fails_6 (by decide) (fun c_6 => ?_) (fun c_6 => ?_)
  · --6T
    refine lv_iconst (v := 0) hx hb dX3_fails_13 (by decide) ?_
    refine m_zret () hx hb hr hlocks hP hD hS dX3_fails_14 (by first | exact Nat.le_of_ble_eq_true rfl | omega) (by first | exact Nat.le_of_ble_eq_true rfl | omega) (by rfl) ?_
    rw [decide_eq_false (Int32.not_lt.mpr c_6)]; rfl
  · --6F
    refine lv_iconst (v := 1) hx hb dX3_fails_9 (by decide) ?_
    refine lv_goto (tgt := 14) hx hb dX3_fails_10 (by decide) ?_
    refine m_zret () hx hb hr hlocks hP hD hS dX3_fails_14 (by first | exact Nat.le_of_ble_eq_true rfl | omega) (by first | exact Nat.le_of_ble_eq_true rfl | omega) (by rfl) ?_
    rw [decide_eq_true (Int32.not_le.mp c_6)]; rfl

set_option maxHeartbeats 4000000 in
set_option maxRecDepth 100000 in
theorem c_X3_in (l : Launch) (D : va_G) (I J : ClassId) (sz : Nat) (vZ : Int32) (loZ : Int32) (hi9Z : Int32)  : mCi l yX3_in wsX3_in 0 0 0 0 D I J [.int vZ, .int loZ, .int hi9Z] [] sz (fun (x : Int32) (u : Unit) => x = (bI (decide (loZ ≤ vZ) && decide (vZ ≤ hi9Z)))) (fun (u : Unit) => []) := by
  refine m_ofi (cc := cX3_in) (maxL := 3) (ret := (some .boolean)) (by decide) rfl (Nat.le_of_ble_eq_true rfl) ?_
  intro p e s m args below meth c A ls hx hb hr hlocks hml hts hown hin hK hP hD hA hS hl
  have hl : lv_has ls 3 [(0, .int vZ), (1, .int loZ), (2, .int hi9Z)] := hl
  have hP : va_P D vwCl [] s.heap := hP
  have hD : va_D A [] := hD
  refine lv_iload_n hx hb dX3_in_0 rfl (lv_at hl 0 rfl) ?_
  refine lv_iload_n hx hb dX3_in_1 rfl (lv_at hl 1 rfl) ?_
  refine lv_icmp_lt (tgt := 14) hx hb dX3_in_2 (by decide) (fun c_2 => ?_) (fun c_2 => ?_)
  · --2T
    refine lv_iconst (v := 0) hx hb dX3_in_14 (by decide) ?_
    refine m_zret () hx hb hr hlocks hP hD hS dX3_in_15 (by first | exact Nat.le_of_ble_eq_true rfl | omega) (by first | exact Nat.le_of_ble_eq_true rfl | omega) (by rfl) ?_
    rw [decide_eq_false (Int32.not_le.mpr c_2)]; rfl
  · --2F
    refine lv_iload_n hx hb dX3_in_5 rfl (lv_at hl 0 rfl) ?_
    refine lv_iload_n hx hb dX3_in_6 rfl (lv_at hl 2 rfl) ?_
    refine lv_icmp_gt (tgt := 14) hx hb dX3_in_7 (by decide) (fun c_7 => ?_) (fun c_7 => ?_)
    · --2F7T
      refine lv_iconst (v := 0) hx hb dX3_in_14 (by decide) ?_
      refine m_zret () hx hb hr hlocks hP hD hS dX3_in_15 (by first | exact Nat.le_of_ble_eq_true rfl | omega) (by first | exact Nat.le_of_ble_eq_true rfl | omega) (by rfl) ?_
      rw [decide_eq_false (Int32.not_le.mpr c_7), Bool.and_false]; rfl
    · --2F7F
      refine lv_iconst (v := 1) hx hb dX3_in_10 (by decide) ?_
      refine lv_goto (tgt := 15) hx hb dX3_in_11 (by decide) ?_
      refine m_zret () hx hb hr hlocks hP hD hS dX3_in_15 (by first | exact Nat.le_of_ble_eq_true rfl | omega) (by first | exact Nat.le_of_ble_eq_true rfl | omega) (by rfl) ?_
      rw [decide_eq_true (Int32.not_lt.mp c_2), decide_eq_true (Int32.not_lt.mp c_7)]; rfl

set_option maxHeartbeats 4000000 in
set_option maxRecDepth 100000 in
theorem c_X3_find (l : Launch) (D : va_G) (I J : ClassId) (sz : Nat) (aZ : Nat) (NZ : Nat) (fZ : Nat → Int32) (nZ : Nat) (vZ : Int32) (hn : nZ ≤ NZ) (hN : NZ ≤ 1000) : mCi l yX3_find wsX3_find 0 0 0 0 D I J [.ref aZ, .int (nI nZ), .int vZ] [(aZ, .inl (I, NZ, .inl fZ))] sz (fun (x : Int32) (u : Unit) => x = (iO (rL fZ vZ nZ))) (fun (u : Unit) => [(aZ, .inl (I, NZ, .inl fZ))]) := by
  refine m_ofi (cc := cX3_find) (maxL := 5) (ret := (some .int)) (by decide) rfl (Nat.le_of_ble_eq_true rfl) ?_
  intro p e s m args below meth c A ls hx hb hr hlocks hml hts hown hin hK hP hD hA hS hl
  have hl : lv_has ls 5 [(0, .ref aZ), (1, .int (nI nZ)), (2, .int vZ)] := hl
  have hP : va_P D vwCl [(aZ, .inl (I, NZ, .inl fZ))] s.heap := hP
  have hD : va_D A [(aZ, .inl (I, NZ, .inl fZ))] := hD
  refine lv_iconst (v := (-1)) hx hb dX3_find_0 (by decide) ?_
  refine lv_istore_n (lv' := [(3, .int (-1)), (0, .ref aZ), (1, .int (nI nZ)), (2, .int vZ)]) hx hb dX3_find_1 rfl hl (by decide) rfl (fun ls hl => ?_)
  refine lv_iconst (v := 0) hx hb dX3_find_2 (by decide) ?_
  refine lv_istore (lv' := [(4, .int 0), (3, .int (-1)), (0, .ref aZ), (1, .int (nI nZ)), (2, .int vZ)]) hx hb dX3_find_3 hl (by decide) rfl (fun ls hl => ?_)
  have loop_5 : ∀ (k_5 : Nat) (iZ : Nat) (x_3 : Int32) (ex_3 : x_3 = (iO (rL fZ vZ iZ))) (x_4 : Int32) (ex_4 : x_4 = (nI iZ)) (hi : iZ ≤ nZ) (hm_ : nZ - iZ < k_5) (H : Heap) (locs : List Loc) (hP : va_P D vwCl [(aZ, .inl (I, NZ, .inl fZ))] H) (hD : va_D A [(aZ, .inl (I, NZ, .inl fZ))]) (hS : va_S A s.heap H locs) (ls : Array Slot) (hl : lv_has ls 5 [(0, .ref aZ), (1, .int (nI nZ)), (2, .int vZ), (3, .int x_3), (4, .int x_4)]), W p l e (mRm 0 0 0 0) s m args below meth c H locs 0 0 (MQ below (va_Qi (fun (x : Int32) (u : Unit) => x = (iO (rL fZ vZ nZ))) (mB D (fun (u : Unit) => [(aZ, .inl (I, NZ, .inl fZ))]) A) A) args s 0 0 A) (F0 m 5 ls []) := by
    intro k_5
    induction k_5 with
    | zero => intro iZ x_3 ex_3 x_4 ex_4 hi hm_; exact absurd hm_ (Nat.not_lt_zero _)
    | succ k_5 ih_5 =>
      intro iZ x_3 ex_3 x_4 ex_4 hi hm_ H locs hP hD hS ls hl
      subst ex_3
      subst ex_4
      refine lv_iload hx hb dX3_find_5 (lv_at hl 4 rfl) ?_
      refine lv_iload_n hx hb dX3_find_7 rfl (lv_at hl 1 rfl) ?_
      refine lv_icmp_ge (tgt := 32) hx hb dX3_find_8 (by decide) (fun c_8 => ?_) (fun c_8 => ?_)
      · --L58T
        have qq := (nI_leI (by omega) (by omega)).mp c_8
        have ee : iZ = nZ := by omega
        refine lv_iload_n hx hb dX3_find_32 rfl (lv_at hl 3 rfl) ?_
        refine m_iret () hx hb hr hlocks hP hD hS dX3_find_33 (by first | exact Nat.le_of_ble_eq_true rfl | omega) (by first | exact Nat.le_of_ble_eq_true rfl | omega) ?_
        rw [ee]
      · --L58F
        have hlt : iZ < nZ := by
          rcases Nat.lt_or_ge iZ nZ with q | q
          · exact q
          · exact absurd ((nI_leI (by omega) (by omega)).mpr q) c_8
        refine lv_aload_n hx hb dX3_find_11 rfl (lv_at hl 0 rfl) ?_
        refine lv_iload hx hb dX3_find_12 (lv_at hl 4 rfl) ?_
        refine m_iald (D := D) (cl := vwCl) hx hb hK hP 0 0 (j := iZ) rfl rfl (by rfl) (by omega) (by omega) dX3_find_14 ?_
        refine lv_iload_n hx hb dX3_find_15 rfl (lv_at hl 2 rfl) ?_
        refine lv_icmp_ne (tgt := 24) hx hb dX3_find_16 (by decide) (fun c_16 => ?_) (fun c_16 => ?_)
        · --L58F16T
          refine lv_iload_n hx hb dX3_find_24 rfl (lv_at hl 3 rfl) ?_
          refine lv_istore_n (lv' := [(3, .int (iO (rL fZ vZ iZ))), (0, .ref aZ), (1, .int (nI nZ)), (2, .int vZ), (4, .int (nI iZ))]) hx hb dX3_find_25 rfl hl (by decide) rfl (fun ls hl => ?_)
          refine lv_iinc (v := (nI (iZ + 1))) (lv' := [(4, .int (nI (iZ + 1))), (3, .int (iO (rL fZ vZ iZ))), (0, .ref aZ), (1, .int (nI nZ)), (2, .int vZ)]) hx hb dX3_find_26 hl (k := 4) rfl (nI_1 _) (by decide) rfl (fun ls hl => ?_)
          refine lv_goto (tgt := 5) hx hb dX3_find_29 (by decide) ?_
          exact ih_5  (iZ + 1) _ (by rw [rL_f c_16]) _ (by rfl) (by first | assumption | omega | rfl) (by omega) _ _ hP hD hS ls (lv_sub hl [2, 3, 4, 1, 0] rfl)
        · --L58F16F
          refine lv_iload hx hb dX3_find_19 (lv_at hl 4 rfl) ?_
          refine lv_goto (tgt := 25) hx hb dX3_find_21 (by decide) ?_
          refine lv_istore_n (lv' := [(3, .int (nI iZ)), (0, .ref aZ), (1, .int (nI nZ)), (2, .int vZ), (4, .int (nI iZ))]) hx hb dX3_find_25 rfl hl (by decide) rfl (fun ls hl => ?_)
          refine lv_iinc (v := (nI (iZ + 1))) (lv' := [(4, .int (nI (iZ + 1))), (3, .int (nI iZ)), (0, .ref aZ), (1, .int (nI nZ)), (2, .int vZ)]) hx hb dX3_find_26 hl (k := 4) rfl (nI_1 _) (by decide) rfl (fun ls hl => ?_)
          refine lv_goto (tgt := 5) hx hb dX3_find_29 (by decide) ?_
          exact ih_5  (iZ + 1) _ (by rw [rL_t c_16]; rfl) _ (by rfl) (by first | assumption | omega | rfl) (by omega) _ _ hP hD hS ls (lv_sub hl [2, 3, 4, 1, 0] rfl)
  exact loop_5 (nZ - 0 + 1) 0 _ (by first | rfl | simp [nI_1, nI_0]) _ (by first | rfl | simp [nI_1, nI_0]) (by first | assumption | omega | rfl) (by exact Nat.lt_succ_self _) _ _ hP hD hS ls (lv_sub hl [2, 3, 4, 1, 0] rfl)

set_option maxHeartbeats 4000000 in
set_option maxRecDepth 100000 in
theorem c_X3_at (l : Launch) (D : va_G) (I J : ClassId) (sz : Nat) (yZ : Nat) (akZ : Nat) (avZ : Nat) (awZ : Nat) (aoZ : Nat) (amZ : Nat) (lkZ : Nat) (lvZ : Nat) (luZ : Nat) (npZ : Nat) (iwZ : Int32) (imZ : Int32) (ilZ : Int32) (irZ : Int32) (iuZ : Int32) (iaZ : Int32) (icZ : Int32) (fZ : Nat → Int32) (kZ : Int32) (hnp : npZ ≤ 200) : mCi l yX3_at wsX3_at 1 24 0 0 D I J [.ref yZ, .int kZ] [(yZ, .inr (3, [.ref akZ, .ref avZ, .ref awZ, .ref aoZ, .ref amZ, .ref lkZ, .ref lvZ, .ref luZ, .int (nI npZ), .int iwZ, .int imZ, .int ilZ, .int irZ, .int iuZ, .int iaZ, .int icZ])), (akZ, .inl (I, 200, .inl fZ))] sz (fun (x : Int32) (u : Unit) => x = (iO (rL fZ kZ npZ))) (fun (u : Unit) => [(yZ, .inr (3, [.ref akZ, .ref avZ, .ref awZ, .ref aoZ, .ref amZ, .ref lkZ, .ref lvZ, .ref luZ, .int (nI npZ), .int iwZ, .int imZ, .int ilZ, .int irZ, .int iuZ, .int iaZ, .int icZ])), (akZ, .inl (I, 200, .inl fZ))]) := by
  refine m_ofi (cc := cX3_at) (maxL := 2) (ret := (some .int)) (by decide) rfl (Nat.le_of_ble_eq_true rfl) ?_
  intro p e s m args below meth c A ls hx hb hr hlocks hml hts hown hin hK hP hD hA hS hl
  have hl : lv_has ls 2 [(0, .ref yZ), (1, .int kZ)] := hl
  have hP : va_P D vwCl [(yZ, .inr (3, [.ref akZ, .ref avZ, .ref awZ, .ref aoZ, .ref amZ, .ref lkZ, .ref lvZ, .ref luZ, .int (nI npZ), .int iwZ, .int imZ, .int ilZ, .int irZ, .int iuZ, .int iaZ, .int icZ])), (akZ, .inl (I, 200, .inl fZ))] s.heap := hP
  have hD : va_D A [(yZ, .inr (3, [.ref akZ, .ref avZ, .ref awZ, .ref aoZ, .ref amZ, .ref lkZ, .ref lvZ, .ref luZ, .int (nI npZ), .int iwZ, .int imZ, .int ilZ, .int irZ, .int iuZ, .int iaZ, .int icZ])), (akZ, .inl (I, 200, .inl fZ))] := hD
  refine lv_aload_n hx hb dX3_at_0 rfl (lv_at hl 0 rfl) ?_
  refine va_get (D := D) (ci := 3) (v := .ref akZ) (C := RX3) (T := TX3) (N := 16) hx hb hts (fun _ h => List.mem_cons_of_mem _ (List.mem_append_right _ h)) hown hK hP 0 rfl rfl 0 (by decide) (hts (.fieldLink RX3 7 "MapsByUseModel" "keys" "[I") (List.mem_of_getElem? (i := 1) (by decide +kernel))) (fun _ h9 => h9) rfl dX3_at_1 ?_
  refine lv_aload_n hx hb dX3_at_4 rfl (lv_at hl 0 rfl) ?_
  refine va_get (D := D) (ci := 3) (v := .int (nI npZ)) (C := RX3) (T := TX3) (N := 16) hx hb hts (fun _ h => List.mem_cons_of_mem _ (List.mem_append_right _ h)) hown hK hP 0 rfl rfl 8 (by decide) (hts (.fieldLink RX3 41 "MapsByUseModel" "pairs" "I") (List.mem_of_getElem? (i := 2) (by decide +kernel))) (fun _ h9 => h9) rfl dX3_at_5 ?_
  refine lv_iload_n hx hb dX3_at_8 rfl (lv_at hl 1 rfl) ?_
  refine m_Si (As := [.ref akZ, .int (nI npZ), .int kZ]) (wr := [(yZ, .inr (3, [.ref akZ, .ref avZ, .ref awZ, .ref aoZ, .ref amZ, .ref lkZ, .ref lvZ, .ref luZ, .int (nI npZ), .int iwZ, .int imZ, .int ilZ, .int irZ, .int iuZ, .int iaZ, .int icZ]))]) (ws2 := fun _ => [(yZ, .inr (3, [.ref akZ, .ref avZ, .ref awZ, .ref aoZ, .ref amZ, .ref lkZ, .ref lvZ, .ref luZ, .int (nI npZ), .int iwZ, .int imZ, .int ilZ, .int irZ, .int iuZ, .int iaZ, .int icZ])), (akZ, .inl (I, 200, .inl fZ))]) ⟨hx, hb, hml, hown, hts⟩ hA hK hP hD hS hl.1 (c_X3_find l D I J s.heap.size akZ 200 fZ npZ kZ (by omega) (by omega)) (cwS 3 hts gX3_at_X3_find rfl rfl rfl (by decide +kernel) ⟨Nat.le_of_ble_eq_true rfl, Nat.le_of_ble_eq_true rfl⟩) [1] [0] [0, 1] rfl rfl (by decide) (by decide) (by decide) (by decide) (fun _ => rfl) rfl rfl (Nat.le_of_ble_eq_true rfl) dX3_at_9 ⟨(by exact Nat.le_of_ble_eq_true rfl), (by exact Nat.le_of_ble_eq_true rfl)⟩ (fun r_9 u_9 H locs hw_9 hP hD hS => ?_)
  try dsimp only at hw_9
  have hP : va_P D vwCl [(yZ, .inr (3, [.ref akZ, .ref avZ, .ref awZ, .ref aoZ, .ref amZ, .ref lkZ, .ref lvZ, .ref luZ, .int (nI npZ), .int iwZ, .int imZ, .int ilZ, .int irZ, .int iuZ, .int iaZ, .int icZ])), (akZ, .inl (I, 200, .inl fZ))] H := hP
  have hD : va_D A [(yZ, .inr (3, [.ref akZ, .ref avZ, .ref awZ, .ref aoZ, .ref amZ, .ref lkZ, .ref lvZ, .ref luZ, .int (nI npZ), .int iwZ, .int imZ, .int ilZ, .int irZ, .int iuZ, .int iaZ, .int icZ])), (akZ, .inl (I, 200, .inl fZ))] := hD
  subst hw_9
  refine m_iret () hx hb hr hlocks hP hD hS dX3_at_12 (by first | exact Nat.le_of_ble_eq_true rfl | omega) (by first | exact Nat.le_of_ble_eq_true rfl | omega) ?_
  rfl

set_option maxHeartbeats 4000000 in
set_option maxRecDepth 100000 in
theorem c_X3_lays (l : Launch) (D : va_G) (I J : ClassId) (sz : Nat) (yZ : Nat) (akZ : Nat) (avZ : Nat) (awZ : Nat) (aoZ : Nat) (amZ : Nat) (lkZ : Nat) (lvZ : Nat) (luZ : Nat) (npZ : Nat) (iwZ : Int32) (imZ : Int32) (ilZ : Int32) (irZ : Int32) (iuZ : Int32) (iaZ : Int32) (icZ : Int32) (fZ : Nat → Int32) (gZ : Nat → Int32) (kZ : Int32) (vZ : Int32) (hnew : rL fZ kZ npZ = none → npZ < 200) (hnp : npZ ≤ 200) : mCv l yX3_lays wsX3_lays 2 45 0 0 D I J [.ref yZ, .int kZ, .int vZ] [(yZ, .inr (3, [.ref akZ, .ref avZ, .ref awZ, .ref aoZ, .ref amZ, .ref lkZ, .ref lvZ, .ref luZ, .int (nI npZ), .int iwZ, .int imZ, .int ilZ, .int irZ, .int iuZ, .int iaZ, .int icZ])), (akZ, .inl (I, 200, .inl fZ)), (avZ, .inl (I, 200, .inl gZ))] sz (fun (u : Unit) => True) (fun (u : Unit) => [(yZ, .inr (3, [.ref akZ, .ref avZ, .ref awZ, .ref aoZ, .ref amZ, .ref lkZ, .ref lvZ, .ref luZ, .int (nI (insN npZ (rL fZ kZ npZ))), .int iwZ, .int imZ, .int ilZ, .int irZ, .int iuZ, .int iaZ, .int icZ])), (akZ, .inl (I, 200, .inl (insF fZ npZ kZ (rL fZ kZ npZ)))), (avZ, .inl (I, 200, .inl (insG gZ npZ vZ (rL fZ kZ npZ))))]) := by
  refine m_ofv (cc := cX3_lays) (maxL := 4) (ret := none) (by decide) rfl (Nat.le_of_ble_eq_true rfl) ?_
  intro p e s m args below meth c A ls hx hb hr hlocks hml hts hown hin hK hP hD hA hS hl
  have hl : lv_has ls 4 [(0, .ref yZ), (1, .int kZ), (2, .int vZ)] := hl
  have hP : va_P D vwCl [(yZ, .inr (3, [.ref akZ, .ref avZ, .ref awZ, .ref aoZ, .ref amZ, .ref lkZ, .ref lvZ, .ref luZ, .int (nI npZ), .int iwZ, .int imZ, .int ilZ, .int irZ, .int iuZ, .int iaZ, .int icZ])), (akZ, .inl (I, 200, .inl fZ)), (avZ, .inl (I, 200, .inl gZ))] s.heap := hP
  have hD : va_D A [(yZ, .inr (3, [.ref akZ, .ref avZ, .ref awZ, .ref aoZ, .ref amZ, .ref lkZ, .ref lvZ, .ref luZ, .int (nI npZ), .int iwZ, .int imZ, .int ilZ, .int irZ, .int iuZ, .int iaZ, .int icZ])), (akZ, .inl (I, 200, .inl fZ)), (avZ, .inl (I, 200, .inl gZ))] := hD
  refine lv_aload_n hx hb dX3_lays_0 rfl (lv_at hl 0 rfl) ?_
  refine lv_iload_n hx hb dX3_lays_1 rfl (lv_at hl 1 rfl) ?_
  refine m_Vi (As := [.int kZ]) (wr := [(avZ, .inl (I, 200, .inl gZ))]) (ws2 := fun _ => [(yZ, .inr (3, [.ref akZ, .ref avZ, .ref awZ, .ref aoZ, .ref amZ, .ref lkZ, .ref lvZ, .ref luZ, .int (nI npZ), .int iwZ, .int imZ, .int ilZ, .int irZ, .int iuZ, .int iaZ, .int icZ])), (akZ, .inl (I, 200, .inl fZ)), (avZ, .inl (I, 200, .inl gZ))]) ⟨hx, hb, hml, hown, hts⟩ hA hK hP hD hS hl.1 (c_X3_at l D I J s.heap.size yZ akZ avZ awZ aoZ amZ lkZ lvZ luZ npZ iwZ imZ ilZ irZ iuZ iaZ icZ fZ kZ (by omega)) (cwV 1 hts gX3_lays_X3_at rfl rfl rfl (by decide +kernel) ⟨Nat.le_of_ble_eq_true rfl, Nat.le_of_ble_eq_true rfl⟩) [0, 1] [2] [1, 2, 0] 0 3 rfl rfl rfl rfl rfl (by decide) (by decide) (by decide) (by decide) (fun _ => rfl) rfl rfl (Nat.le_of_ble_eq_true rfl) dX3_lays_2 ⟨(by exact Nat.le_of_ble_eq_true rfl), (by exact Nat.le_of_ble_eq_true rfl)⟩ (fun r_2 u_2 H locs hw_2 hP hD hS => ?_)
  try dsimp only at hw_2
  have hP : va_P D vwCl [(yZ, .inr (3, [.ref akZ, .ref avZ, .ref awZ, .ref aoZ, .ref amZ, .ref lkZ, .ref lvZ, .ref luZ, .int (nI npZ), .int iwZ, .int imZ, .int ilZ, .int irZ, .int iuZ, .int iaZ, .int icZ])), (akZ, .inl (I, 200, .inl fZ)), (avZ, .inl (I, 200, .inl gZ))] H := hP
  have hD : va_D A [(yZ, .inr (3, [.ref akZ, .ref avZ, .ref awZ, .ref aoZ, .ref amZ, .ref lkZ, .ref lvZ, .ref luZ, .int (nI npZ), .int iwZ, .int imZ, .int ilZ, .int irZ, .int iuZ, .int iaZ, .int icZ])), (akZ, .inl (I, 200, .inl fZ)), (avZ, .inl (I, 200, .inl gZ))] := hD
  subst hw_2
  refine lv_istore_n (lv' := [(3, .int (iO (rL fZ kZ npZ))), (0, .ref yZ), (1, .int kZ), (2, .int vZ)]) hx hb dX3_lays_5 rfl hl (by decide) rfl (fun ls hl => ?_)
  refine lv_iload_n hx hb dX3_lays_6 rfl (lv_at hl 0 rfl) ?_
  refine lv_if_ge (tgt := 32) hx hb dX3_lays_7 (by decide) (fun c_7 => ?_) (fun c_7 => ?_)
  · --7T
    obtain ⟨jZ, ho⟩ := iO_ges c_7
    have hj := (rL_some ho).1
    rw [ho] at hl
    refine lv_aload_n hx hb dX3_lays_32 rfl (lv_at hl 1 rfl) ?_
    refine va_get (D := D) (ci := 3) (v := .ref avZ) (C := RX3) (T := TX3) (N := 16) hx hb hts (fun _ h => List.mem_cons_of_mem _ (List.mem_append_right _ h)) hown hK hP 0 rfl rfl 1 (by decide) (hts (.fieldLink RX3 13 "MapsByUseModel" "values" "[I") (List.mem_of_getElem? (i := 3) (by decide +kernel))) (fun _ h9 => h9) rfl dX3_lays_33 ?_
    refine lv_iload_n hx hb dX3_lays_36 rfl (lv_at hl 0 rfl) ?_
    refine lv_iload_n hx hb dX3_lays_37 rfl (lv_at hl 3 rfl) ?_
    refine m_iast (D := D) (cl := vwCl) hx hb hK hP hD hS 2 0 (j := jZ) rfl rfl (by rfl) (by omega) (by omega) dX3_lays_38 (fun H locs hP hD hS => ?_)
    have hP : va_P D vwCl [(yZ, .inr (3, [.ref akZ, .ref avZ, .ref awZ, .ref aoZ, .ref amZ, .ref lkZ, .ref lvZ, .ref luZ, .int (nI npZ), .int iwZ, .int imZ, .int ilZ, .int irZ, .int iuZ, .int iaZ, .int icZ])), (akZ, .inl (I, 200, .inl fZ)), (avZ, .inl (I, 200, .inl (upd gZ jZ vZ)))] H := hP
    have hD : va_D A [(yZ, .inr (3, [.ref akZ, .ref avZ, .ref awZ, .ref aoZ, .ref amZ, .ref lkZ, .ref lvZ, .ref luZ, .int (nI npZ), .int iwZ, .int imZ, .int ilZ, .int irZ, .int iuZ, .int iaZ, .int icZ])), (akZ, .inl (I, 200, .inl fZ)), (avZ, .inl (I, 200, .inl (upd gZ jZ vZ)))] := hD
    have hEq : [(yZ, .inr (3, [.ref akZ, .ref avZ, .ref awZ, .ref aoZ, .ref amZ, .ref lkZ, .ref lvZ, .ref luZ, .int (nI npZ), .int iwZ, .int imZ, .int ilZ, .int irZ, .int iuZ, .int iaZ, .int icZ])), (akZ, .inl (I, 200, .inl fZ)), (avZ, .inl (I, 200, .inl (upd gZ jZ vZ)))] = ([(yZ, .inr (3, [.ref akZ, .ref avZ, .ref awZ, .ref aoZ, .ref amZ, .ref lkZ, .ref lvZ, .ref luZ, .int (nI (insN npZ (rL fZ kZ npZ))), .int iwZ, .int imZ, .int ilZ, .int irZ, .int iuZ, .int iaZ, .int icZ])), (akZ, .inl (I, 200, .inl (insF fZ npZ kZ (rL fZ kZ npZ)))), (avZ, .inl (I, 200, .inl (insG gZ npZ vZ (rL fZ kZ npZ))))] : va_W) := (by rw [ho]; rfl)
    rw [hEq] at hP hD
    refine m_vret () hx hb hr hlocks hP hD hS dX3_lays_39 (by first | exact Nat.le_of_ble_eq_true rfl | omega) (by first | exact Nat.le_of_ble_eq_true rfl | omega) ?_
    trivial
  · --7F
    have ho : rL fZ kZ npZ = none := iO_ge c_7 (rL_lt (by omega))
    have hlt := hnew ho
    refine lv_aload_n hx hb dX3_lays_10 rfl (lv_at hl 1 rfl) ?_
    refine va_get (D := D) (ci := 3) (v := .int (nI npZ)) (C := RX3) (T := TX3) (N := 16) hx hb hts (fun _ h => List.mem_cons_of_mem _ (List.mem_append_right _ h)) hown hK hP 0 rfl rfl 8 (by decide) (hts (.fieldLink RX3 41 "MapsByUseModel" "pairs" "I") (List.mem_of_getElem? (i := 1) (by decide +kernel))) (fun _ h9 => h9) rfl dX3_lays_11 ?_
    refine lv_istore_n (lv' := [(3, .int (nI npZ)), (0, .ref yZ), (1, .int kZ), (2, .int vZ)]) hx hb dX3_lays_14 rfl hl (by decide) rfl (fun ls hl => ?_)
    refine lv_aload_n hx hb dX3_lays_15 rfl (lv_at hl 1 rfl) ?_
    refine va_get (D := D) (ci := 3) (v := .ref akZ) (C := RX3) (T := TX3) (N := 16) hx hb hts (fun _ h => List.mem_cons_of_mem _ (List.mem_append_right _ h)) hown hK hP 0 rfl rfl 0 (by decide) (hts (.fieldLink RX3 7 "MapsByUseModel" "keys" "[I") (List.mem_of_getElem? (i := 2) (by decide +kernel))) (fun _ h9 => h9) rfl dX3_lays_16 ?_
    refine lv_iload_n hx hb dX3_lays_19 rfl (lv_at hl 0 rfl) ?_
    refine lv_iload_n hx hb dX3_lays_20 rfl (lv_at hl 2 rfl) ?_
    refine m_iast (D := D) (cl := vwCl) hx hb hK hP hD hS 1 0 (j := npZ) rfl rfl (by rfl) (by omega) (by omega) dX3_lays_21 (fun H locs hP hD hS => ?_)
    have hP : va_P D vwCl [(yZ, .inr (3, [.ref akZ, .ref avZ, .ref awZ, .ref aoZ, .ref amZ, .ref lkZ, .ref lvZ, .ref luZ, .int (nI npZ), .int iwZ, .int imZ, .int ilZ, .int irZ, .int iuZ, .int iaZ, .int icZ])), (akZ, .inl (I, 200, .inl (upd fZ npZ kZ))), (avZ, .inl (I, 200, .inl gZ))] H := hP
    have hD : va_D A [(yZ, .inr (3, [.ref akZ, .ref avZ, .ref awZ, .ref aoZ, .ref amZ, .ref lkZ, .ref lvZ, .ref luZ, .int (nI npZ), .int iwZ, .int imZ, .int ilZ, .int irZ, .int iuZ, .int iaZ, .int icZ])), (akZ, .inl (I, 200, .inl (upd fZ npZ kZ))), (avZ, .inl (I, 200, .inl gZ))] := hD
    refine lv_aload_n hx hb dX3_lays_22 rfl (lv_at hl 1 rfl) ?_
    refine lv_dup hx hb dX3_lays_23 rfl ?_
    refine va_get (D := D) (ci := 3) (v := .int (nI npZ)) (C := RX3) (T := TX3) (N := 16) hx hb hts (fun _ h => List.mem_cons_of_mem _ (List.mem_append_right _ h)) hown hK hP 0 rfl rfl 8 (by decide) (hts (.fieldLink RX3 41 "MapsByUseModel" "pairs" "I") (List.mem_of_getElem? (i := 1) (by decide +kernel))) (fun _ h9 => h9) rfl dX3_lays_24 ?_
    refine lv_iconst (v := 1) hx hb dX3_lays_27 (by decide) ?_
    refine lv_iadd hx hb dX3_lays_28 ?_
    refine m_topi (y := (nI (npZ + 1))) (by exact nI_1 npZ) ?_
    refine va_put (D := D) (ci := 3) (v := .int (nI (npZ + 1))) (ty := .int) (C := RX3) (T := TX3) (N := 16) hx hb hts (fun _ h => List.mem_cons_of_mem _ (List.mem_append_right _ h)) tyX3 tyX3_ok nmX3 hown hK hP hD hS 0 rfl rfl 8 (by decide) (hts (.fieldLink RX3 41 "MapsByUseModel" "pairs" "I") (List.mem_of_getElem? (i := 1) (by decide +kernel))) (fun _ h9 => h9) rfl (by decide +kernel) rfl rfl (Nat.le_of_ble_eq_true rfl) dX3_lays_29 (fun H locs hP hD hS => ?_)
    have hP : va_P D vwCl [(yZ, .inr (3, [.ref akZ, .ref avZ, .ref awZ, .ref aoZ, .ref amZ, .ref lkZ, .ref lvZ, .ref luZ, .int (nI (npZ + 1)), .int iwZ, .int imZ, .int ilZ, .int irZ, .int iuZ, .int iaZ, .int icZ])), (akZ, .inl (I, 200, .inl (upd fZ npZ kZ))), (avZ, .inl (I, 200, .inl gZ))] H := hP
    have hD : va_D A [(yZ, .inr (3, [.ref akZ, .ref avZ, .ref awZ, .ref aoZ, .ref amZ, .ref lkZ, .ref lvZ, .ref luZ, .int (nI (npZ + 1)), .int iwZ, .int imZ, .int ilZ, .int irZ, .int iuZ, .int iaZ, .int icZ])), (akZ, .inl (I, 200, .inl (upd fZ npZ kZ))), (avZ, .inl (I, 200, .inl gZ))] := hD
    refine lv_aload_n hx hb dX3_lays_32 rfl (lv_at hl 1 rfl) ?_
    refine va_get (D := D) (ci := 3) (v := .ref avZ) (C := RX3) (T := TX3) (N := 16) hx hb hts (fun _ h => List.mem_cons_of_mem _ (List.mem_append_right _ h)) hown hK hP 0 rfl rfl 1 (by decide) (hts (.fieldLink RX3 13 "MapsByUseModel" "values" "[I") (List.mem_of_getElem? (i := 3) (by decide +kernel))) (fun _ h9 => h9) rfl dX3_lays_33 ?_
    refine lv_iload_n hx hb dX3_lays_36 rfl (lv_at hl 0 rfl) ?_
    refine lv_iload_n hx hb dX3_lays_37 rfl (lv_at hl 3 rfl) ?_
    refine m_iast (D := D) (cl := vwCl) hx hb hK hP hD hS 2 0 (j := npZ) rfl rfl (by rfl) (by omega) (by omega) dX3_lays_38 (fun H locs hP hD hS => ?_)
    have hP : va_P D vwCl [(yZ, .inr (3, [.ref akZ, .ref avZ, .ref awZ, .ref aoZ, .ref amZ, .ref lkZ, .ref lvZ, .ref luZ, .int (nI (npZ + 1)), .int iwZ, .int imZ, .int ilZ, .int irZ, .int iuZ, .int iaZ, .int icZ])), (akZ, .inl (I, 200, .inl (upd fZ npZ kZ))), (avZ, .inl (I, 200, .inl (upd gZ npZ vZ)))] H := hP
    have hD : va_D A [(yZ, .inr (3, [.ref akZ, .ref avZ, .ref awZ, .ref aoZ, .ref amZ, .ref lkZ, .ref lvZ, .ref luZ, .int (nI (npZ + 1)), .int iwZ, .int imZ, .int ilZ, .int irZ, .int iuZ, .int iaZ, .int icZ])), (akZ, .inl (I, 200, .inl (upd fZ npZ kZ))), (avZ, .inl (I, 200, .inl (upd gZ npZ vZ)))] := hD
    have hEq : [(yZ, .inr (3, [.ref akZ, .ref avZ, .ref awZ, .ref aoZ, .ref amZ, .ref lkZ, .ref lvZ, .ref luZ, .int (nI (npZ + 1)), .int iwZ, .int imZ, .int ilZ, .int irZ, .int iuZ, .int iaZ, .int icZ])), (akZ, .inl (I, 200, .inl (upd fZ npZ kZ))), (avZ, .inl (I, 200, .inl (upd gZ npZ vZ)))] = ([(yZ, .inr (3, [.ref akZ, .ref avZ, .ref awZ, .ref aoZ, .ref amZ, .ref lkZ, .ref lvZ, .ref luZ, .int (nI (insN npZ (rL fZ kZ npZ))), .int iwZ, .int imZ, .int ilZ, .int irZ, .int iuZ, .int iaZ, .int icZ])), (akZ, .inl (I, 200, .inl (insF fZ npZ kZ (rL fZ kZ npZ)))), (avZ, .inl (I, 200, .inl (insG gZ npZ vZ (rL fZ kZ npZ))))] : va_W) := (by rw [ho]; rfl)
    rw [hEq] at hP hD
    refine m_vret () hx hb hr hlocks hP hD hS dX3_lays_39 (by first | exact Nat.le_of_ble_eq_true rfl | omega) (by first | exact Nat.le_of_ble_eq_true rfl | omega) ?_
    trivial

set_option maxHeartbeats 4000000 in
set_option maxRecDepth 100000 in
theorem c_X3_drops (l : Launch) (D : va_G) (I J : ClassId) (sz : Nat) (yZ : Nat) (akZ : Nat) (avZ : Nat) (awZ : Nat) (aoZ : Nat) (amZ : Nat) (lkZ : Nat) (lvZ : Nat) (luZ : Nat) (npZ : Nat) (iwZ : Int32) (imZ : Int32) (ilZ : Int32) (irZ : Int32) (iuZ : Int32) (iaZ : Int32) (icZ : Int32) (fZ : Nat → Int32) (gZ : Nat → Int32) (jZ : Nat) (hj : jZ < npZ) (hnp : npZ ≤ 200) : mCv l yX3_drops wsX3_drops 0 0 0 0 D I J [.ref yZ, .int (nI jZ)] [(yZ, .inr (3, [.ref akZ, .ref avZ, .ref awZ, .ref aoZ, .ref amZ, .ref lkZ, .ref lvZ, .ref luZ, .int (nI npZ), .int iwZ, .int imZ, .int ilZ, .int irZ, .int iuZ, .int iaZ, .int icZ])), (akZ, .inl (I, 200, .inl fZ)), (avZ, .inl (I, 200, .inl gZ))] sz (fun (u : Unit) => True) (fun (u : Unit) => [(yZ, .inr (3, [.ref akZ, .ref avZ, .ref awZ, .ref aoZ, .ref amZ, .ref lkZ, .ref lvZ, .ref luZ, .int (nI (npZ - 1)), .int iwZ, .int imZ, .int ilZ, .int irZ, .int iuZ, .int iaZ, .int icZ])), (akZ, .inl (I, 200, .inl (swF fZ npZ jZ))), (avZ, .inl (I, 200, .inl (swF gZ npZ jZ)))]) := by
  refine m_ofv (cc := cX3_drops) (maxL := 2) (ret := none) (by decide) rfl (Nat.le_of_ble_eq_true rfl) ?_
  intro p e s m args below meth c A ls hx hb hr hlocks hml hts hown hin hK hP hD hA hS hl
  have hl : lv_has ls 2 [(0, .ref yZ), (1, .int (nI jZ))] := hl
  have hP : va_P D vwCl [(yZ, .inr (3, [.ref akZ, .ref avZ, .ref awZ, .ref aoZ, .ref amZ, .ref lkZ, .ref lvZ, .ref luZ, .int (nI npZ), .int iwZ, .int imZ, .int ilZ, .int irZ, .int iuZ, .int iaZ, .int icZ])), (akZ, .inl (I, 200, .inl fZ)), (avZ, .inl (I, 200, .inl gZ))] s.heap := hP
  have hD : va_D A [(yZ, .inr (3, [.ref akZ, .ref avZ, .ref awZ, .ref aoZ, .ref amZ, .ref lkZ, .ref lvZ, .ref luZ, .int (nI npZ), .int iwZ, .int imZ, .int ilZ, .int irZ, .int iuZ, .int iaZ, .int icZ])), (akZ, .inl (I, 200, .inl fZ)), (avZ, .inl (I, 200, .inl gZ))] := hD
  refine lv_aload_n hx hb dX3_drops_0 rfl (lv_at hl 0 rfl) ?_
  refine lv_dup hx hb dX3_drops_1 rfl ?_
  refine va_get (D := D) (ci := 3) (v := .int (nI npZ)) (C := RX3) (T := TX3) (N := 16) hx hb hts (fun _ h => List.mem_cons_of_mem _ (List.mem_append_right _ h)) hown hK hP 0 rfl rfl 8 (by decide) (hts (.fieldLink RX3 41 "MapsByUseModel" "pairs" "I") (List.mem_of_getElem? (i := 1) (by decide +kernel))) (fun _ h9 => h9) rfl dX3_drops_2 ?_
  refine lv_iconst (v := 1) hx hb dX3_drops_5 (by decide) ?_
  refine lv_isub hx hb dX3_drops_6 ?_
  refine m_topi (y := (nI (npZ - 1))) (by exact pk_sub (a := npZ) (b := 1) (by omega)) ?_
  refine va_put (D := D) (ci := 3) (v := .int (nI (npZ - 1))) (ty := .int) (C := RX3) (T := TX3) (N := 16) hx hb hts (fun _ h => List.mem_cons_of_mem _ (List.mem_append_right _ h)) tyX3 tyX3_ok nmX3 hown hK hP hD hS 0 rfl rfl 8 (by decide) (hts (.fieldLink RX3 41 "MapsByUseModel" "pairs" "I") (List.mem_of_getElem? (i := 1) (by decide +kernel))) (fun _ h9 => h9) rfl (by decide +kernel) rfl rfl (Nat.le_of_ble_eq_true rfl) dX3_drops_7 (fun H locs hP hD hS => ?_)
  have hP : va_P D vwCl [(yZ, .inr (3, [.ref akZ, .ref avZ, .ref awZ, .ref aoZ, .ref amZ, .ref lkZ, .ref lvZ, .ref luZ, .int (nI (npZ - 1)), .int iwZ, .int imZ, .int ilZ, .int irZ, .int iuZ, .int iaZ, .int icZ])), (akZ, .inl (I, 200, .inl fZ)), (avZ, .inl (I, 200, .inl gZ))] H := hP
  have hD : va_D A [(yZ, .inr (3, [.ref akZ, .ref avZ, .ref awZ, .ref aoZ, .ref amZ, .ref lkZ, .ref lvZ, .ref luZ, .int (nI (npZ - 1)), .int iwZ, .int imZ, .int ilZ, .int irZ, .int iuZ, .int iaZ, .int icZ])), (akZ, .inl (I, 200, .inl fZ)), (avZ, .inl (I, 200, .inl gZ))] := hD
  refine lv_aload_n hx hb dX3_drops_10 rfl (lv_at hl 0 rfl) ?_
  refine va_get (D := D) (ci := 3) (v := .ref akZ) (C := RX3) (T := TX3) (N := 16) hx hb hts (fun _ h => List.mem_cons_of_mem _ (List.mem_append_right _ h)) hown hK hP 0 rfl rfl 0 (by decide) (hts (.fieldLink RX3 7 "MapsByUseModel" "keys" "[I") (List.mem_of_getElem? (i := 2) (by decide +kernel))) (fun _ h9 => h9) rfl dX3_drops_11 ?_
  refine lv_iload_n hx hb dX3_drops_14 rfl (lv_at hl 1 rfl) ?_
  refine lv_aload_n hx hb dX3_drops_15 rfl (lv_at hl 0 rfl) ?_
  refine va_get (D := D) (ci := 3) (v := .ref akZ) (C := RX3) (T := TX3) (N := 16) hx hb hts (fun _ h => List.mem_cons_of_mem _ (List.mem_append_right _ h)) hown hK hP 0 rfl rfl 0 (by decide) (hts (.fieldLink RX3 7 "MapsByUseModel" "keys" "[I") (List.mem_of_getElem? (i := 2) (by decide +kernel))) (fun _ h9 => h9) rfl dX3_drops_16 ?_
  refine lv_aload_n hx hb dX3_drops_19 rfl (lv_at hl 0 rfl) ?_
  refine va_get (D := D) (ci := 3) (v := .int (nI (npZ - 1))) (C := RX3) (T := TX3) (N := 16) hx hb hts (fun _ h => List.mem_cons_of_mem _ (List.mem_append_right _ h)) hown hK hP 0 rfl rfl 8 (by decide) (hts (.fieldLink RX3 41 "MapsByUseModel" "pairs" "I") (List.mem_of_getElem? (i := 1) (by decide +kernel))) (fun _ h9 => h9) rfl dX3_drops_20 ?_
  refine m_iald (D := D) (cl := vwCl) hx hb hK hP 1 0 (j := (npZ - 1)) rfl rfl (by rfl) (by omega) (by omega) dX3_drops_23 ?_
  refine m_iast (D := D) (cl := vwCl) hx hb hK hP hD hS 1 0 (j := jZ) rfl rfl (by rfl) (by omega) (by omega) dX3_drops_24 (fun H locs hP hD hS => ?_)
  have hP : va_P D vwCl [(yZ, .inr (3, [.ref akZ, .ref avZ, .ref awZ, .ref aoZ, .ref amZ, .ref lkZ, .ref lvZ, .ref luZ, .int (nI (npZ - 1)), .int iwZ, .int imZ, .int ilZ, .int irZ, .int iuZ, .int iaZ, .int icZ])), (akZ, .inl (I, 200, .inl (upd fZ jZ (fZ (npZ - 1))))), (avZ, .inl (I, 200, .inl gZ))] H := hP
  have hD : va_D A [(yZ, .inr (3, [.ref akZ, .ref avZ, .ref awZ, .ref aoZ, .ref amZ, .ref lkZ, .ref lvZ, .ref luZ, .int (nI (npZ - 1)), .int iwZ, .int imZ, .int ilZ, .int irZ, .int iuZ, .int iaZ, .int icZ])), (akZ, .inl (I, 200, .inl (upd fZ jZ (fZ (npZ - 1))))), (avZ, .inl (I, 200, .inl gZ))] := hD
  refine lv_aload_n hx hb dX3_drops_25 rfl (lv_at hl 0 rfl) ?_
  refine va_get (D := D) (ci := 3) (v := .ref avZ) (C := RX3) (T := TX3) (N := 16) hx hb hts (fun _ h => List.mem_cons_of_mem _ (List.mem_append_right _ h)) hown hK hP 0 rfl rfl 1 (by decide) (hts (.fieldLink RX3 13 "MapsByUseModel" "values" "[I") (List.mem_of_getElem? (i := 3) (by decide +kernel))) (fun _ h9 => h9) rfl dX3_drops_26 ?_
  refine lv_iload_n hx hb dX3_drops_29 rfl (lv_at hl 1 rfl) ?_
  refine lv_aload_n hx hb dX3_drops_30 rfl (lv_at hl 0 rfl) ?_
  refine va_get (D := D) (ci := 3) (v := .ref avZ) (C := RX3) (T := TX3) (N := 16) hx hb hts (fun _ h => List.mem_cons_of_mem _ (List.mem_append_right _ h)) hown hK hP 0 rfl rfl 1 (by decide) (hts (.fieldLink RX3 13 "MapsByUseModel" "values" "[I") (List.mem_of_getElem? (i := 3) (by decide +kernel))) (fun _ h9 => h9) rfl dX3_drops_31 ?_
  refine lv_aload_n hx hb dX3_drops_34 rfl (lv_at hl 0 rfl) ?_
  refine va_get (D := D) (ci := 3) (v := .int (nI (npZ - 1))) (C := RX3) (T := TX3) (N := 16) hx hb hts (fun _ h => List.mem_cons_of_mem _ (List.mem_append_right _ h)) hown hK hP 0 rfl rfl 8 (by decide) (hts (.fieldLink RX3 41 "MapsByUseModel" "pairs" "I") (List.mem_of_getElem? (i := 1) (by decide +kernel))) (fun _ h9 => h9) rfl dX3_drops_35 ?_
  refine m_iald (D := D) (cl := vwCl) hx hb hK hP 2 0 (j := (npZ - 1)) rfl rfl (by rfl) (by omega) (by omega) dX3_drops_38 ?_
  refine m_iast (D := D) (cl := vwCl) hx hb hK hP hD hS 2 0 (j := jZ) rfl rfl (by rfl) (by omega) (by omega) dX3_drops_39 (fun H locs hP hD hS => ?_)
  have hP : va_P D vwCl [(yZ, .inr (3, [.ref akZ, .ref avZ, .ref awZ, .ref aoZ, .ref amZ, .ref lkZ, .ref lvZ, .ref luZ, .int (nI (npZ - 1)), .int iwZ, .int imZ, .int ilZ, .int irZ, .int iuZ, .int iaZ, .int icZ])), (akZ, .inl (I, 200, .inl (upd fZ jZ (fZ (npZ - 1))))), (avZ, .inl (I, 200, .inl (upd gZ jZ (gZ (npZ - 1)))))] H := hP
  have hD : va_D A [(yZ, .inr (3, [.ref akZ, .ref avZ, .ref awZ, .ref aoZ, .ref amZ, .ref lkZ, .ref lvZ, .ref luZ, .int (nI (npZ - 1)), .int iwZ, .int imZ, .int ilZ, .int irZ, .int iuZ, .int iaZ, .int icZ])), (akZ, .inl (I, 200, .inl (upd fZ jZ (fZ (npZ - 1))))), (avZ, .inl (I, 200, .inl (upd gZ jZ (gZ (npZ - 1)))))] := hD
  refine m_vret () hx hb hr hlocks hP hD hS dX3_drops_40 (by first | exact Nat.le_of_ble_eq_true rfl | omega) (by first | exact Nat.le_of_ble_eq_true rfl | omega) ?_
  trivial

set_option maxHeartbeats 4000000 in
set_option maxRecDepth 100000 in
theorem c_X3_isFull (l : Launch) (D : va_G) (I J : ClassId) (sz : Nat) (yZ : Nat) (akZ : Nat) (avZ : Nat) (awZ : Nat) (aoZ : Nat) (amZ : Nat) (lkZ : Nat) (lvZ : Nat) (luZ : Nat) (npZ : Nat) (iwZ : Int32) (imZ : Int32) (ilZ : Int32) (irZ : Int32) (iuZ : Int32) (iaZ : Int32) (icZ : Int32) (fZ : Nat → Int32) (kZ : Int32) (hnp : npZ ≤ 200) : mCi l yX3_isFull wsX3_isFull 2 45 0 0 D I J [.ref yZ, .int kZ] [(yZ, .inr (3, [.ref akZ, .ref avZ, .ref awZ, .ref aoZ, .ref amZ, .ref lkZ, .ref lvZ, .ref luZ, .int (nI npZ), .int iwZ, .int imZ, .int ilZ, .int irZ, .int iuZ, .int iaZ, .int icZ])), (akZ, .inl (I, 200, .inl fZ))] sz (fun (x : Int32) (u : Unit) => x = (bI (fullB (rL fZ kZ npZ) npZ))) (fun (u : Unit) => [(yZ, .inr (3, [.ref akZ, .ref avZ, .ref awZ, .ref aoZ, .ref amZ, .ref lkZ, .ref lvZ, .ref luZ, .int (nI npZ), .int iwZ, .int imZ, .int ilZ, .int irZ, .int iuZ, .int iaZ, .int icZ])), (akZ, .inl (I, 200, .inl fZ))]) := by
  refine m_ofi (cc := cX3_isFull) (maxL := 2) (ret := (some .boolean)) (by decide) rfl (Nat.le_of_ble_eq_true rfl) ?_
  intro p e s m args below meth c A ls hx hb hr hlocks hml hts hown hin hK hP hD hA hS hl
  have hl : lv_has ls 2 [(0, .ref yZ), (1, .int kZ)] := hl
  have hP : va_P D vwCl [(yZ, .inr (3, [.ref akZ, .ref avZ, .ref awZ, .ref aoZ, .ref amZ, .ref lkZ, .ref lvZ, .ref luZ, .int (nI npZ), .int iwZ, .int imZ, .int ilZ, .int irZ, .int iuZ, .int iaZ, .int icZ])), (akZ, .inl (I, 200, .inl fZ))] s.heap := hP
  have hD : va_D A [(yZ, .inr (3, [.ref akZ, .ref avZ, .ref awZ, .ref aoZ, .ref amZ, .ref lkZ, .ref lvZ, .ref luZ, .int (nI npZ), .int iwZ, .int imZ, .int ilZ, .int irZ, .int iuZ, .int iaZ, .int icZ])), (akZ, .inl (I, 200, .inl fZ))] := hD
  refine lv_aload_n hx hb dX3_isFull_0 rfl (lv_at hl 0 rfl) ?_
  refine lv_iload_n hx hb dX3_isFull_1 rfl (lv_at hl 1 rfl) ?_
  refine m_Vi (As := [.int kZ]) (wr := []) (ws2 := fun _ => [(yZ, .inr (3, [.ref akZ, .ref avZ, .ref awZ, .ref aoZ, .ref amZ, .ref lkZ, .ref lvZ, .ref luZ, .int (nI npZ), .int iwZ, .int imZ, .int ilZ, .int irZ, .int iuZ, .int iaZ, .int icZ])), (akZ, .inl (I, 200, .inl fZ))]) ⟨hx, hb, hml, hown, hts⟩ hA hK hP hD hS hl.1 (c_X3_at l D I J s.heap.size yZ akZ avZ awZ aoZ amZ lkZ lvZ luZ npZ iwZ imZ ilZ irZ iuZ iaZ icZ fZ kZ (by omega)) (cwV 1 hts gX3_isFull_X3_at rfl rfl rfl (by decide +kernel) ⟨Nat.le_of_ble_eq_true rfl, Nat.le_of_ble_eq_true rfl⟩) [0, 1] [] [0, 1] 0 3 rfl rfl rfl rfl rfl (by decide) (by decide) (by decide) (by decide) (fun _ => rfl) rfl rfl (Nat.le_of_ble_eq_true rfl) dX3_isFull_2 ⟨(by exact Nat.le_of_ble_eq_true rfl), (by exact Nat.le_of_ble_eq_true rfl)⟩ (fun r_2 u_2 H locs hw_2 hP hD hS => ?_)
  try dsimp only at hw_2
  have hP : va_P D vwCl [(yZ, .inr (3, [.ref akZ, .ref avZ, .ref awZ, .ref aoZ, .ref amZ, .ref lkZ, .ref lvZ, .ref luZ, .int (nI npZ), .int iwZ, .int imZ, .int ilZ, .int irZ, .int iuZ, .int iaZ, .int icZ])), (akZ, .inl (I, 200, .inl fZ))] H := hP
  have hD : va_D A [(yZ, .inr (3, [.ref akZ, .ref avZ, .ref awZ, .ref aoZ, .ref amZ, .ref lkZ, .ref lvZ, .ref luZ, .int (nI npZ), .int iwZ, .int imZ, .int ilZ, .int irZ, .int iuZ, .int iaZ, .int icZ])), (akZ, .inl (I, 200, .inl fZ))] := hD
  subst hw_2
  refine lv_if_ge (tgt := 22) hx hb dX3_isFull_5 (by decide) (fun c_5 => ?_) (fun c_5 => ?_)
  · --5T
    refine lv_iconst (v := 0) hx hb dX3_isFull_22 (by decide) ?_
    refine m_zret () hx hb hr hlocks hP hD hS dX3_isFull_23 (by first | exact Nat.le_of_ble_eq_true rfl | omega) (by first | exact Nat.le_of_ble_eq_true rfl | omega) (by rfl) ?_
    obtain ⟨jZ, ho⟩ := iO_ges c_5
    rw [ho]; rfl
  · --5F
    refine lv_aload_n hx hb dX3_isFull_8 rfl (lv_at hl 0 rfl) ?_
    refine va_get (D := D) (ci := 3) (v := .int (nI npZ)) (C := RX3) (T := TX3) (N := 16) hx hb hts (fun _ h => List.mem_cons_of_mem _ (List.mem_append_right _ h)) hown hK hP 0 rfl rfl 8 (by decide) (hts (.fieldLink RX3 41 "MapsByUseModel" "pairs" "I") (List.mem_of_getElem? (i := 1) (by decide +kernel))) (fun _ h9 => h9) rfl dX3_isFull_9 ?_
    refine lv_sipush (v := 200) hx hb dX3_isFull_12 (by decide) ?_
    refine lv_icmp_ne (tgt := 22) hx hb dX3_isFull_15 (by decide) (fun c_15 => ?_) (fun c_15 => ?_)
    · --5F15T
      refine lv_iconst (v := 0) hx hb dX3_isFull_22 (by decide) ?_
      refine m_zret () hx hb hr hlocks hP hD hS dX3_isFull_23 (by first | exact Nat.le_of_ble_eq_true rfl | omega) (by first | exact Nat.le_of_ble_eq_true rfl | omega) (by rfl) ?_
      have ho : rL fZ kZ npZ = none := iO_ge c_5 (rL_lt (by omega))
      rw [ho]
      have hq : ¬ npZ = 200 := fun q => c_15 (by rw [q]; rfl)
      unfold fullB
      rw [decide_eq_false hq]; rfl
    · --5F15F
      refine lv_iconst (v := 1) hx hb dX3_isFull_18 (by decide) ?_
      refine lv_goto (tgt := 23) hx hb dX3_isFull_19 (by decide) ?_
      refine m_zret () hx hb hr hlocks hP hD hS dX3_isFull_23 (by first | exact Nat.le_of_ble_eq_true rfl | omega) (by first | exact Nat.le_of_ble_eq_true rfl | omega) (by rfl) ?_
      have ho : rL fZ kZ npZ = none := iO_ge c_5 (rL_lt (by omega))
      rw [ho]
      have hq : npZ = 200 := (nI_eq (by omega) (by omega)).mp c_15
      unfold fullB
      rw [decide_eq_true hq]; rfl

set_option maxHeartbeats 4000000 in
set_option maxRecDepth 100000 in
theorem c_X3_now (l : Launch) (D : va_G) (I J : ClassId) (sz : Nat) (yZ : Nat) (akZ : Nat) (avZ : Nat) (awZ : Nat) (aoZ : Nat) (amZ : Nat) (lkZ : Nat) (lvZ : Nat) (luZ : Nat) (npZ : Nat) (iwZ : Int32) (imZ : Int32) (ilZ : Int32) (irZ : Int32) (iuZ : Int32) (iaZ : Int32) (icZ : Int32) (fZ : Nat → Int32) (gZ : Nat → Int32) (kZ : Int32) (hnp : npZ ≤ 200) : mCl l yX3_now wsX3_now 2 45 0 0 D I J [.ref yZ, .int kZ] [(yZ, .inr (3, [.ref akZ, .ref avZ, .ref awZ, .ref aoZ, .ref amZ, .ref lkZ, .ref lvZ, .ref luZ, .int (nI npZ), .int iwZ, .int imZ, .int ilZ, .int irZ, .int iuZ, .int iaZ, .int icZ])), (akZ, .inl (I, 200, .inl fZ)), (avZ, .inl (I, 200, .inl gZ))] sz (fun (x : Int64) (u : Unit) => x = (oN gZ (rL fZ kZ npZ))) (fun (u : Unit) => [(yZ, .inr (3, [.ref akZ, .ref avZ, .ref awZ, .ref aoZ, .ref amZ, .ref lkZ, .ref lvZ, .ref luZ, .int (nI npZ), .int iwZ, .int imZ, .int ilZ, .int irZ, .int iuZ, .int iaZ, .int icZ])), (akZ, .inl (I, 200, .inl fZ)), (avZ, .inl (I, 200, .inl gZ))]) := by
  refine m_ofl (cc := cX3_now) (maxL := 2) (ret := (some .long)) (by decide) rfl (Nat.le_of_ble_eq_true rfl) ?_
  intro p e s m args below meth c A ls hx hb hr hlocks hml hts hown hin hK hP hD hA hS hl
  have hl : lv_has ls 2 [(0, .ref yZ), (1, .int kZ)] := hl
  have hP : va_P D vwCl [(yZ, .inr (3, [.ref akZ, .ref avZ, .ref awZ, .ref aoZ, .ref amZ, .ref lkZ, .ref lvZ, .ref luZ, .int (nI npZ), .int iwZ, .int imZ, .int ilZ, .int irZ, .int iuZ, .int iaZ, .int icZ])), (akZ, .inl (I, 200, .inl fZ)), (avZ, .inl (I, 200, .inl gZ))] s.heap := hP
  have hD : va_D A [(yZ, .inr (3, [.ref akZ, .ref avZ, .ref awZ, .ref aoZ, .ref amZ, .ref lkZ, .ref lvZ, .ref luZ, .int (nI npZ), .int iwZ, .int imZ, .int ilZ, .int irZ, .int iuZ, .int iaZ, .int icZ])), (akZ, .inl (I, 200, .inl fZ)), (avZ, .inl (I, 200, .inl gZ))] := hD
  refine lv_aload_n hx hb dX3_now_0 rfl (lv_at hl 0 rfl) ?_
  refine lv_iload_n hx hb dX3_now_1 rfl (lv_at hl 1 rfl) ?_
  refine m_Vi (As := [.int kZ]) (wr := [(avZ, .inl (I, 200, .inl gZ))]) (ws2 := fun _ => [(yZ, .inr (3, [.ref akZ, .ref avZ, .ref awZ, .ref aoZ, .ref amZ, .ref lkZ, .ref lvZ, .ref luZ, .int (nI npZ), .int iwZ, .int imZ, .int ilZ, .int irZ, .int iuZ, .int iaZ, .int icZ])), (akZ, .inl (I, 200, .inl fZ)), (avZ, .inl (I, 200, .inl gZ))]) ⟨hx, hb, hml, hown, hts⟩ hA hK hP hD hS hl.1 (c_X3_at l D I J s.heap.size yZ akZ avZ awZ aoZ amZ lkZ lvZ luZ npZ iwZ imZ ilZ irZ iuZ iaZ icZ fZ kZ (by omega)) (cwV 1 hts gX3_now_X3_at rfl rfl rfl (by decide +kernel) ⟨Nat.le_of_ble_eq_true rfl, Nat.le_of_ble_eq_true rfl⟩) [0, 1] [2] [1, 2, 0] 0 3 rfl rfl rfl rfl rfl (by decide) (by decide) (by decide) (by decide) (fun _ => rfl) rfl rfl (Nat.le_of_ble_eq_true rfl) dX3_now_2 ⟨(by exact Nat.le_of_ble_eq_true rfl), (by exact Nat.le_of_ble_eq_true rfl)⟩ (fun r_2 u_2 H locs hw_2 hP hD hS => ?_)
  try dsimp only at hw_2
  have hP : va_P D vwCl [(yZ, .inr (3, [.ref akZ, .ref avZ, .ref awZ, .ref aoZ, .ref amZ, .ref lkZ, .ref lvZ, .ref luZ, .int (nI npZ), .int iwZ, .int imZ, .int ilZ, .int irZ, .int iuZ, .int iaZ, .int icZ])), (akZ, .inl (I, 200, .inl fZ)), (avZ, .inl (I, 200, .inl gZ))] H := hP
  have hD : va_D A [(yZ, .inr (3, [.ref akZ, .ref avZ, .ref awZ, .ref aoZ, .ref amZ, .ref lkZ, .ref lvZ, .ref luZ, .int (nI npZ), .int iwZ, .int imZ, .int ilZ, .int irZ, .int iuZ, .int iaZ, .int icZ])), (akZ, .inl (I, 200, .inl fZ)), (avZ, .inl (I, 200, .inl gZ))] := hD
  subst hw_2
  refine lv_if_ge (tgt := 14) hx hb dX3_now_5 (by decide) (fun c_5 => ?_) (fun c_5 => ?_)
  · --5T
    obtain ⟨jZ, ho⟩ := iO_ges c_5
    have hj := (rL_some ho).1
    refine lv_aload_n hx hb dX3_now_14 rfl (lv_at hl 0 rfl) ?_
    refine va_get (D := D) (ci := 3) (v := .ref avZ) (C := RX3) (T := TX3) (N := 16) hx hb hts (fun _ h => List.mem_cons_of_mem _ (List.mem_append_right _ h)) hown hK hP 0 rfl rfl 1 (by decide) (hts (.fieldLink RX3 13 "MapsByUseModel" "values" "[I") (List.mem_of_getElem? (i := 2) (by decide +kernel))) (fun _ h9 => h9) rfl dX3_now_15 ?_
    refine lv_aload_n hx hb dX3_now_18 rfl (lv_at hl 0 rfl) ?_
    refine lv_iload_n hx hb dX3_now_19 rfl (lv_at hl 1 rfl) ?_
    refine m_Vi (As := [.int kZ]) (wr := [(avZ, .inl (I, 200, .inl gZ))]) (ws2 := fun _ => [(yZ, .inr (3, [.ref akZ, .ref avZ, .ref awZ, .ref aoZ, .ref amZ, .ref lkZ, .ref lvZ, .ref luZ, .int (nI npZ), .int iwZ, .int imZ, .int ilZ, .int irZ, .int iuZ, .int iaZ, .int icZ])), (akZ, .inl (I, 200, .inl fZ)), (avZ, .inl (I, 200, .inl gZ))]) ⟨hx, hb, hml, hown, hts⟩ hA hK hP hD hS hl.1 (c_X3_at l D I J H.size yZ akZ avZ awZ aoZ amZ lkZ lvZ luZ npZ iwZ imZ ilZ irZ iuZ iaZ icZ fZ kZ (by omega)) (cwV 1 hts gX3_now_X3_at rfl rfl rfl (by decide +kernel) ⟨Nat.le_of_ble_eq_true rfl, Nat.le_of_ble_eq_true rfl⟩) [0, 1] [2] [1, 2, 0] 0 3 rfl rfl rfl rfl rfl (by decide) (by decide) (by decide) (by decide) (fun _ => rfl) rfl rfl (Nat.le_of_ble_eq_true rfl) dX3_now_20 ⟨(by exact Nat.le_of_ble_eq_true rfl), (by exact Nat.le_of_ble_eq_true rfl)⟩ (fun r_20 u_20 H locs hw_20 hP hD hS => ?_)
    try dsimp only at hw_20
    have hP : va_P D vwCl [(yZ, .inr (3, [.ref akZ, .ref avZ, .ref awZ, .ref aoZ, .ref amZ, .ref lkZ, .ref lvZ, .ref luZ, .int (nI npZ), .int iwZ, .int imZ, .int ilZ, .int irZ, .int iuZ, .int iaZ, .int icZ])), (akZ, .inl (I, 200, .inl fZ)), (avZ, .inl (I, 200, .inl gZ))] H := hP
    have hD : va_D A [(yZ, .inr (3, [.ref akZ, .ref avZ, .ref awZ, .ref aoZ, .ref amZ, .ref lkZ, .ref lvZ, .ref luZ, .int (nI npZ), .int iwZ, .int imZ, .int ilZ, .int irZ, .int iuZ, .int iaZ, .int icZ])), (akZ, .inl (I, 200, .inl fZ)), (avZ, .inl (I, 200, .inl gZ))] := hD
    subst hw_20
    refine m_topi (y := (nI jZ)) (by rw [ho]; rfl) ?_
    refine m_iald (D := D) (cl := vwCl) hx hb hK hP 2 0 (j := jZ) rfl rfl (by rfl) (by omega) (by omega) dX3_now_23 ?_
    refine lv_i2l (v := (gZ jZ).toInt64) hx hb dX3_now_24 rfl ?_
    refine m_lret () hx hb hr hlocks hP hD hS dX3_now_25 (by first | exact Nat.le_of_ble_eq_true rfl | omega) (by first | exact Nat.le_of_ble_eq_true rfl | omega) ?_
    rw [ho]; rfl
  · --5F
    refine lv_ldc2 (v := 4294967296) hx hb hown (hts (.constantLong RX3 52 (4294967296)) (List.mem_of_getElem? (i := 1) (by decide +kernel))) dX3_now_8 ?_
    refine lv_goto (tgt := 25) hx hb dX3_now_11 (by decide) ?_
    refine m_lret () hx hb hr hlocks hP hD hS dX3_now_25 (by first | exact Nat.le_of_ble_eq_true rfl | omega) (by first | exact Nat.le_of_ble_eq_true rfl | omega) ?_
    have ho : rL fZ kZ npZ = none := iO_ge c_5 (rL_lt (by omega))
    rw [ho]; rfl

set_option maxHeartbeats 4000000 in
set_option maxRecDepth 100000 in
theorem c_X3_put_F (l : Launch) (D : va_G) (I J : ClassId) (sz : Nat) (yZ : Nat) (akZ : Nat) (avZ : Nat) (awZ : Nat) (aoZ : Nat) (amZ : Nat) (lkZ : Nat) (lvZ : Nat) (luZ : Nat) (npZ : Nat) (iwZ : Int32) (imZ : Int32) (ilZ : Int32) (irZ : Int32) (iuZ : Int32) (iaZ : Int32) (icZ : Int32) (fZ : Nat → Int32) (kZ : Int32) (vZ : Int32) (hfull : fullB (rL fZ kZ npZ) npZ = true) (hnp : npZ ≤ 200) : mCl l yX3_put wsX3_put 3 66 0 0 D I J [.ref yZ, .int kZ, .int vZ] [(yZ, .inr (3, [.ref akZ, .ref avZ, .ref awZ, .ref aoZ, .ref amZ, .ref lkZ, .ref lvZ, .ref luZ, .int (nI npZ), .int iwZ, .int imZ, .int ilZ, .int irZ, .int iuZ, .int iaZ, .int icZ])), (akZ, .inl (I, 200, .inl fZ))] sz (fun (x : Int64) (u : Unit) => x = 0) (fun (u : Unit) => [(yZ, .inr (3, [.ref akZ, .ref avZ, .ref awZ, .ref aoZ, .ref amZ, .ref lkZ, .ref lvZ, .ref luZ, .int (nI npZ), .int iwZ, .int imZ, .int ilZ, .int irZ, .int iuZ, .int iaZ, .int 1])), (akZ, .inl (I, 200, .inl fZ))]) := by
  refine m_ofl (cc := cX3_put) (maxL := 5) (ret := (some .long)) (by decide) rfl (Nat.le_of_ble_eq_true rfl) ?_
  intro p e s m args below meth c A ls hx hb hr hlocks hml hts hown hin hK hP hD hA hS hl
  have hl : lv_has ls 5 [(0, .ref yZ), (1, .int kZ), (2, .int vZ)] := hl
  have hP : va_P D vwCl [(yZ, .inr (3, [.ref akZ, .ref avZ, .ref awZ, .ref aoZ, .ref amZ, .ref lkZ, .ref lvZ, .ref luZ, .int (nI npZ), .int iwZ, .int imZ, .int ilZ, .int irZ, .int iuZ, .int iaZ, .int icZ])), (akZ, .inl (I, 200, .inl fZ))] s.heap := hP
  have hD : va_D A [(yZ, .inr (3, [.ref akZ, .ref avZ, .ref awZ, .ref aoZ, .ref amZ, .ref lkZ, .ref lvZ, .ref luZ, .int (nI npZ), .int iwZ, .int imZ, .int ilZ, .int irZ, .int iuZ, .int iaZ, .int icZ])), (akZ, .inl (I, 200, .inl fZ))] := hD
  refine lv_aload_n hx hb dX3_put_0 rfl (lv_at hl 0 rfl) ?_
  refine lv_aload_n hx hb dX3_put_1 rfl (lv_at hl 0 rfl) ?_
  refine lv_iload_n hx hb dX3_put_2 rfl (lv_at hl 1 rfl) ?_
  refine m_Vi (As := [.int kZ]) (wr := []) (ws2 := fun _ => [(yZ, .inr (3, [.ref akZ, .ref avZ, .ref awZ, .ref aoZ, .ref amZ, .ref lkZ, .ref lvZ, .ref luZ, .int (nI npZ), .int iwZ, .int imZ, .int ilZ, .int irZ, .int iuZ, .int iaZ, .int icZ])), (akZ, .inl (I, 200, .inl fZ))]) ⟨hx, hb, hml, hown, hts⟩ hA hK hP hD hS hl.1 (c_X3_isFull l D I J s.heap.size yZ akZ avZ awZ aoZ amZ lkZ lvZ luZ npZ iwZ imZ ilZ irZ iuZ iaZ icZ fZ kZ (by omega)) (cwV 1 hts gX3_put_X3_isFull rfl rfl rfl (by decide +kernel) ⟨Nat.le_of_ble_eq_true rfl, Nat.le_of_ble_eq_true rfl⟩) [0, 1] [] [0, 1] 0 3 rfl rfl rfl rfl rfl (by decide) (by decide) (by decide) (by decide) (fun _ => rfl) rfl rfl (Nat.le_of_ble_eq_true rfl) dX3_put_3 ⟨(by exact Nat.le_of_ble_eq_true rfl), (by exact Nat.le_of_ble_eq_true rfl)⟩ (fun r_3 u_3 H locs hw_3 hP hD hS => ?_)
  try dsimp only at hw_3
  have hP : va_P D vwCl [(yZ, .inr (3, [.ref akZ, .ref avZ, .ref awZ, .ref aoZ, .ref amZ, .ref lkZ, .ref lvZ, .ref luZ, .int (nI npZ), .int iwZ, .int imZ, .int ilZ, .int irZ, .int iuZ, .int iaZ, .int icZ])), (akZ, .inl (I, 200, .inl fZ))] H := hP
  have hD : va_D A [(yZ, .inr (3, [.ref akZ, .ref avZ, .ref awZ, .ref aoZ, .ref amZ, .ref lkZ, .ref lvZ, .ref luZ, .int (nI npZ), .int iwZ, .int imZ, .int ilZ, .int irZ, .int iuZ, .int iaZ, .int icZ])), (akZ, .inl (I, 200, .inl fZ))] := hD
  subst hw_3
  refine lv_if_eq (tgt := 13) hx hb dX3_put_6 (by decide) (fun c_6 => ?_) (fun c_6 => ?_)
  · --6T
    exact absurd c_6 (by rw [hfull]; decide)
  · --6F
    refine lv_iconst (v := 1) hx hb dX3_put_9 (by decide) ?_
    refine lv_goto (tgt := 14) hx hb dX3_put_10 (by decide) ?_
    refine m_Vi (As := [.int 1]) (wr := [(akZ, .inl (I, 200, .inl fZ))]) (ws2 := fun _ => [(yZ, .inr (3, [.ref akZ, .ref avZ, .ref awZ, .ref aoZ, .ref amZ, .ref lkZ, .ref lvZ, .ref luZ, .int (nI npZ), .int iwZ, .int imZ, .int ilZ, .int irZ, .int iuZ, .int iaZ, .int 1])), (akZ, .inl (I, 200, .inl fZ))]) ⟨hx, hb, hml, hown, hts⟩ hA hK hP hD hS hl.1 (c_X3_fails l D I J H.size yZ akZ avZ awZ aoZ amZ lkZ lvZ luZ (nI npZ) iwZ imZ ilZ irZ iuZ iaZ icZ 1 ) (cwV 1 hts gX3_put_X3_fails rfl rfl rfl (by decide +kernel) ⟨Nat.le_of_ble_eq_true rfl, Nat.le_of_ble_eq_true rfl⟩) [0] [1] [1, 0] 0 3 rfl rfl rfl rfl rfl (by decide) (by decide) (by decide) (by decide) (fun _ => rfl) rfl rfl (Nat.le_of_ble_eq_true rfl) dX3_put_14 ⟨(by exact Nat.le_of_ble_eq_true rfl), (by exact Nat.le_of_ble_eq_true rfl)⟩ (fun r_14 u_14 H locs hw_14 hP hD hS => ?_)
    try dsimp only at hw_14
    have hP : va_P D vwCl [(yZ, .inr (3, [.ref akZ, .ref avZ, .ref awZ, .ref aoZ, .ref amZ, .ref lkZ, .ref lvZ, .ref luZ, .int (nI npZ), .int iwZ, .int imZ, .int ilZ, .int irZ, .int iuZ, .int iaZ, .int 1])), (akZ, .inl (I, 200, .inl fZ))] H := hP
    have hD : va_D A [(yZ, .inr (3, [.ref akZ, .ref avZ, .ref awZ, .ref aoZ, .ref amZ, .ref lkZ, .ref lvZ, .ref luZ, .int (nI npZ), .int iwZ, .int imZ, .int ilZ, .int irZ, .int iuZ, .int iaZ, .int 1])), (akZ, .inl (I, 200, .inl fZ))] := hD
    subst hw_14
    refine lv_if_eq (tgt := 22) hx hb dX3_put_17 (by decide) (fun c_17 => ?_) (fun c_17 => ?_)
    · --6F17T
      exact absurd c_17 (by decide)
    · --6F17F
      refine lv_lconst (v := 0) hx hb dX3_put_20 (by decide) ?_
      refine m_lret () hx hb hr hlocks hP hD hS dX3_put_21 (by first | exact Nat.le_of_ble_eq_true rfl | omega) (by first | exact Nat.le_of_ble_eq_true rfl | omega) ?_
      rfl

set_option maxHeartbeats 4000000 in
set_option maxRecDepth 100000 in
theorem c_X3_putIfAbsent_F (l : Launch) (D : va_G) (I J : ClassId) (sz : Nat) (yZ : Nat) (akZ : Nat) (avZ : Nat) (awZ : Nat) (aoZ : Nat) (amZ : Nat) (lkZ : Nat) (lvZ : Nat) (luZ : Nat) (npZ : Nat) (iwZ : Int32) (imZ : Int32) (ilZ : Int32) (irZ : Int32) (iuZ : Int32) (iaZ : Int32) (icZ : Int32) (fZ : Nat → Int32) (kZ : Int32) (vZ : Int32) (hfull : fullB (rL fZ kZ npZ) npZ = true) (hnp : npZ ≤ 200) : mCl l yX3_putIfAbsent wsX3_putIfAbsent 3 66 0 0 D I J [.ref yZ, .int kZ, .int vZ] [(yZ, .inr (3, [.ref akZ, .ref avZ, .ref awZ, .ref aoZ, .ref amZ, .ref lkZ, .ref lvZ, .ref luZ, .int (nI npZ), .int iwZ, .int imZ, .int ilZ, .int irZ, .int iuZ, .int iaZ, .int icZ])), (akZ, .inl (I, 200, .inl fZ))] sz (fun (x : Int64) (u : Unit) => x = 0) (fun (u : Unit) => [(yZ, .inr (3, [.ref akZ, .ref avZ, .ref awZ, .ref aoZ, .ref amZ, .ref lkZ, .ref lvZ, .ref luZ, .int (nI npZ), .int iwZ, .int imZ, .int ilZ, .int irZ, .int iuZ, .int iaZ, .int 1])), (akZ, .inl (I, 200, .inl fZ))]) := by
  refine m_ofl (cc := cX3_putIfAbsent) (maxL := 5) (ret := (some .long)) (by decide) rfl (Nat.le_of_ble_eq_true rfl) ?_
  intro p e s m args below meth c A ls hx hb hr hlocks hml hts hown hin hK hP hD hA hS hl
  have hl : lv_has ls 5 [(0, .ref yZ), (1, .int kZ), (2, .int vZ)] := hl
  have hP : va_P D vwCl [(yZ, .inr (3, [.ref akZ, .ref avZ, .ref awZ, .ref aoZ, .ref amZ, .ref lkZ, .ref lvZ, .ref luZ, .int (nI npZ), .int iwZ, .int imZ, .int ilZ, .int irZ, .int iuZ, .int iaZ, .int icZ])), (akZ, .inl (I, 200, .inl fZ))] s.heap := hP
  have hD : va_D A [(yZ, .inr (3, [.ref akZ, .ref avZ, .ref awZ, .ref aoZ, .ref amZ, .ref lkZ, .ref lvZ, .ref luZ, .int (nI npZ), .int iwZ, .int imZ, .int ilZ, .int irZ, .int iuZ, .int iaZ, .int icZ])), (akZ, .inl (I, 200, .inl fZ))] := hD
  refine lv_aload_n hx hb dX3_putIfAbsent_0 rfl (lv_at hl 0 rfl) ?_
  refine lv_aload_n hx hb dX3_putIfAbsent_1 rfl (lv_at hl 0 rfl) ?_
  refine lv_iload_n hx hb dX3_putIfAbsent_2 rfl (lv_at hl 1 rfl) ?_
  refine m_Vi (As := [.int kZ]) (wr := []) (ws2 := fun _ => [(yZ, .inr (3, [.ref akZ, .ref avZ, .ref awZ, .ref aoZ, .ref amZ, .ref lkZ, .ref lvZ, .ref luZ, .int (nI npZ), .int iwZ, .int imZ, .int ilZ, .int irZ, .int iuZ, .int iaZ, .int icZ])), (akZ, .inl (I, 200, .inl fZ))]) ⟨hx, hb, hml, hown, hts⟩ hA hK hP hD hS hl.1 (c_X3_isFull l D I J s.heap.size yZ akZ avZ awZ aoZ amZ lkZ lvZ luZ npZ iwZ imZ ilZ irZ iuZ iaZ icZ fZ kZ (by omega)) (cwV 1 hts gX3_putIfAbsent_X3_isFull rfl rfl rfl (by decide +kernel) ⟨Nat.le_of_ble_eq_true rfl, Nat.le_of_ble_eq_true rfl⟩) [0, 1] [] [0, 1] 0 3 rfl rfl rfl rfl rfl (by decide) (by decide) (by decide) (by decide) (fun _ => rfl) rfl rfl (Nat.le_of_ble_eq_true rfl) dX3_putIfAbsent_3 ⟨(by exact Nat.le_of_ble_eq_true rfl), (by exact Nat.le_of_ble_eq_true rfl)⟩ (fun r_3 u_3 H locs hw_3 hP hD hS => ?_)
  try dsimp only at hw_3
  have hP : va_P D vwCl [(yZ, .inr (3, [.ref akZ, .ref avZ, .ref awZ, .ref aoZ, .ref amZ, .ref lkZ, .ref lvZ, .ref luZ, .int (nI npZ), .int iwZ, .int imZ, .int ilZ, .int irZ, .int iuZ, .int iaZ, .int icZ])), (akZ, .inl (I, 200, .inl fZ))] H := hP
  have hD : va_D A [(yZ, .inr (3, [.ref akZ, .ref avZ, .ref awZ, .ref aoZ, .ref amZ, .ref lkZ, .ref lvZ, .ref luZ, .int (nI npZ), .int iwZ, .int imZ, .int ilZ, .int irZ, .int iuZ, .int iaZ, .int icZ])), (akZ, .inl (I, 200, .inl fZ))] := hD
  subst hw_3
  refine lv_if_eq (tgt := 13) hx hb dX3_putIfAbsent_6 (by decide) (fun c_6 => ?_) (fun c_6 => ?_)
  · --6T
    exact absurd c_6 (by rw [hfull]; decide)
  · --6F
    refine lv_iconst (v := 1) hx hb dX3_putIfAbsent_9 (by decide) ?_
    refine lv_goto (tgt := 14) hx hb dX3_putIfAbsent_10 (by decide) ?_
    refine m_Vi (As := [.int 1]) (wr := [(akZ, .inl (I, 200, .inl fZ))]) (ws2 := fun _ => [(yZ, .inr (3, [.ref akZ, .ref avZ, .ref awZ, .ref aoZ, .ref amZ, .ref lkZ, .ref lvZ, .ref luZ, .int (nI npZ), .int iwZ, .int imZ, .int ilZ, .int irZ, .int iuZ, .int iaZ, .int 1])), (akZ, .inl (I, 200, .inl fZ))]) ⟨hx, hb, hml, hown, hts⟩ hA hK hP hD hS hl.1 (c_X3_fails l D I J H.size yZ akZ avZ awZ aoZ amZ lkZ lvZ luZ (nI npZ) iwZ imZ ilZ irZ iuZ iaZ icZ 1 ) (cwV 1 hts gX3_putIfAbsent_X3_fails rfl rfl rfl (by decide +kernel) ⟨Nat.le_of_ble_eq_true rfl, Nat.le_of_ble_eq_true rfl⟩) [0] [1] [1, 0] 0 3 rfl rfl rfl rfl rfl (by decide) (by decide) (by decide) (by decide) (fun _ => rfl) rfl rfl (Nat.le_of_ble_eq_true rfl) dX3_putIfAbsent_14 ⟨(by exact Nat.le_of_ble_eq_true rfl), (by exact Nat.le_of_ble_eq_true rfl)⟩ (fun r_14 u_14 H locs hw_14 hP hD hS => ?_)
    try dsimp only at hw_14
    have hP : va_P D vwCl [(yZ, .inr (3, [.ref akZ, .ref avZ, .ref awZ, .ref aoZ, .ref amZ, .ref lkZ, .ref lvZ, .ref luZ, .int (nI npZ), .int iwZ, .int imZ, .int ilZ, .int irZ, .int iuZ, .int iaZ, .int 1])), (akZ, .inl (I, 200, .inl fZ))] H := hP
    have hD : va_D A [(yZ, .inr (3, [.ref akZ, .ref avZ, .ref awZ, .ref aoZ, .ref amZ, .ref lkZ, .ref lvZ, .ref luZ, .int (nI npZ), .int iwZ, .int imZ, .int ilZ, .int irZ, .int iuZ, .int iaZ, .int 1])), (akZ, .inl (I, 200, .inl fZ))] := hD
    subst hw_14
    refine lv_if_eq (tgt := 22) hx hb dX3_putIfAbsent_17 (by decide) (fun c_17 => ?_) (fun c_17 => ?_)
    · --6F17T
      exact absurd c_17 (by decide)
    · --6F17F
      refine lv_lconst (v := 0) hx hb dX3_putIfAbsent_20 (by decide) ?_
      refine m_lret () hx hb hr hlocks hP hD hS dX3_putIfAbsent_21 (by first | exact Nat.le_of_ble_eq_true rfl | omega) (by first | exact Nat.le_of_ble_eq_true rfl | omega) ?_
      rfl

set_option maxHeartbeats 4000000 in
set_option maxRecDepth 100000 in
theorem c_X3_merge_F (l : Launch) (D : va_G) (I J : ClassId) (sz : Nat) (yZ : Nat) (akZ : Nat) (avZ : Nat) (awZ : Nat) (aoZ : Nat) (amZ : Nat) (lkZ : Nat) (lvZ : Nat) (luZ : Nat) (npZ : Nat) (iwZ : Int32) (imZ : Int32) (ilZ : Int32) (irZ : Int32) (iuZ : Int32) (iaZ : Int32) (icZ : Int32) (fZ : Nat → Int32) (kZ : Int32) (vZ : Int32) (hfull : fullB (rL fZ kZ npZ) npZ = true) (hnp : npZ ≤ 200) : mCl l yX3_merge wsX3_merge 3 66 0 0 D I J [.ref yZ, .int kZ, .int vZ] [(yZ, .inr (3, [.ref akZ, .ref avZ, .ref awZ, .ref aoZ, .ref amZ, .ref lkZ, .ref lvZ, .ref luZ, .int (nI npZ), .int iwZ, .int imZ, .int ilZ, .int irZ, .int iuZ, .int iaZ, .int icZ])), (akZ, .inl (I, 200, .inl fZ))] sz (fun (x : Int64) (u : Unit) => x = 0) (fun (u : Unit) => [(yZ, .inr (3, [.ref akZ, .ref avZ, .ref awZ, .ref aoZ, .ref amZ, .ref lkZ, .ref lvZ, .ref luZ, .int (nI npZ), .int iwZ, .int imZ, .int ilZ, .int irZ, .int iuZ, .int iaZ, .int 1])), (akZ, .inl (I, 200, .inl fZ))]) := by
  refine m_ofl (cc := cX3_merge) (maxL := 4) (ret := (some .long)) (by decide) rfl (Nat.le_of_ble_eq_true rfl) ?_
  intro p e s m args below meth c A ls hx hb hr hlocks hml hts hown hin hK hP hD hA hS hl
  have hl : lv_has ls 4 [(0, .ref yZ), (1, .int kZ), (2, .int vZ)] := hl
  have hP : va_P D vwCl [(yZ, .inr (3, [.ref akZ, .ref avZ, .ref awZ, .ref aoZ, .ref amZ, .ref lkZ, .ref lvZ, .ref luZ, .int (nI npZ), .int iwZ, .int imZ, .int ilZ, .int irZ, .int iuZ, .int iaZ, .int icZ])), (akZ, .inl (I, 200, .inl fZ))] s.heap := hP
  have hD : va_D A [(yZ, .inr (3, [.ref akZ, .ref avZ, .ref awZ, .ref aoZ, .ref amZ, .ref lkZ, .ref lvZ, .ref luZ, .int (nI npZ), .int iwZ, .int imZ, .int ilZ, .int irZ, .int iuZ, .int iaZ, .int icZ])), (akZ, .inl (I, 200, .inl fZ))] := hD
  refine lv_aload_n hx hb dX3_merge_0 rfl (lv_at hl 0 rfl) ?_
  refine lv_aload_n hx hb dX3_merge_1 rfl (lv_at hl 0 rfl) ?_
  refine lv_iload_n hx hb dX3_merge_2 rfl (lv_at hl 1 rfl) ?_
  refine m_Vi (As := [.int kZ]) (wr := []) (ws2 := fun _ => [(yZ, .inr (3, [.ref akZ, .ref avZ, .ref awZ, .ref aoZ, .ref amZ, .ref lkZ, .ref lvZ, .ref luZ, .int (nI npZ), .int iwZ, .int imZ, .int ilZ, .int irZ, .int iuZ, .int iaZ, .int icZ])), (akZ, .inl (I, 200, .inl fZ))]) ⟨hx, hb, hml, hown, hts⟩ hA hK hP hD hS hl.1 (c_X3_isFull l D I J s.heap.size yZ akZ avZ awZ aoZ amZ lkZ lvZ luZ npZ iwZ imZ ilZ irZ iuZ iaZ icZ fZ kZ (by omega)) (cwV 1 hts gX3_merge_X3_isFull rfl rfl rfl (by decide +kernel) ⟨Nat.le_of_ble_eq_true rfl, Nat.le_of_ble_eq_true rfl⟩) [0, 1] [] [0, 1] 0 3 rfl rfl rfl rfl rfl (by decide) (by decide) (by decide) (by decide) (fun _ => rfl) rfl rfl (Nat.le_of_ble_eq_true rfl) dX3_merge_3 ⟨(by exact Nat.le_of_ble_eq_true rfl), (by exact Nat.le_of_ble_eq_true rfl)⟩ (fun r_3 u_3 H locs hw_3 hP hD hS => ?_)
  try dsimp only at hw_3
  have hP : va_P D vwCl [(yZ, .inr (3, [.ref akZ, .ref avZ, .ref awZ, .ref aoZ, .ref amZ, .ref lkZ, .ref lvZ, .ref luZ, .int (nI npZ), .int iwZ, .int imZ, .int ilZ, .int irZ, .int iuZ, .int iaZ, .int icZ])), (akZ, .inl (I, 200, .inl fZ))] H := hP
  have hD : va_D A [(yZ, .inr (3, [.ref akZ, .ref avZ, .ref awZ, .ref aoZ, .ref amZ, .ref lkZ, .ref lvZ, .ref luZ, .int (nI npZ), .int iwZ, .int imZ, .int ilZ, .int irZ, .int iuZ, .int iaZ, .int icZ])), (akZ, .inl (I, 200, .inl fZ))] := hD
  subst hw_3
  refine lv_if_eq (tgt := 13) hx hb dX3_merge_6 (by decide) (fun c_6 => ?_) (fun c_6 => ?_)
  · --6T
    exact absurd c_6 (by rw [hfull]; decide)
  · --6F
    refine lv_iconst (v := 1) hx hb dX3_merge_9 (by decide) ?_
    refine lv_goto (tgt := 14) hx hb dX3_merge_10 (by decide) ?_
    refine m_Vi (As := [.int 1]) (wr := [(akZ, .inl (I, 200, .inl fZ))]) (ws2 := fun _ => [(yZ, .inr (3, [.ref akZ, .ref avZ, .ref awZ, .ref aoZ, .ref amZ, .ref lkZ, .ref lvZ, .ref luZ, .int (nI npZ), .int iwZ, .int imZ, .int ilZ, .int irZ, .int iuZ, .int iaZ, .int 1])), (akZ, .inl (I, 200, .inl fZ))]) ⟨hx, hb, hml, hown, hts⟩ hA hK hP hD hS hl.1 (c_X3_fails l D I J H.size yZ akZ avZ awZ aoZ amZ lkZ lvZ luZ (nI npZ) iwZ imZ ilZ irZ iuZ iaZ icZ 1 ) (cwV 1 hts gX3_merge_X3_fails rfl rfl rfl (by decide +kernel) ⟨Nat.le_of_ble_eq_true rfl, Nat.le_of_ble_eq_true rfl⟩) [0] [1] [1, 0] 0 3 rfl rfl rfl rfl rfl (by decide) (by decide) (by decide) (by decide) (fun _ => rfl) rfl rfl (Nat.le_of_ble_eq_true rfl) dX3_merge_14 ⟨(by exact Nat.le_of_ble_eq_true rfl), (by exact Nat.le_of_ble_eq_true rfl)⟩ (fun r_14 u_14 H locs hw_14 hP hD hS => ?_)
    try dsimp only at hw_14
    have hP : va_P D vwCl [(yZ, .inr (3, [.ref akZ, .ref avZ, .ref awZ, .ref aoZ, .ref amZ, .ref lkZ, .ref lvZ, .ref luZ, .int (nI npZ), .int iwZ, .int imZ, .int ilZ, .int irZ, .int iuZ, .int iaZ, .int 1])), (akZ, .inl (I, 200, .inl fZ))] H := hP
    have hD : va_D A [(yZ, .inr (3, [.ref akZ, .ref avZ, .ref awZ, .ref aoZ, .ref amZ, .ref lkZ, .ref lvZ, .ref luZ, .int (nI npZ), .int iwZ, .int imZ, .int ilZ, .int irZ, .int iuZ, .int iaZ, .int 1])), (akZ, .inl (I, 200, .inl fZ))] := hD
    subst hw_14
    refine lv_if_eq (tgt := 22) hx hb dX3_merge_17 (by decide) (fun c_17 => ?_) (fun c_17 => ?_)
    · --6F17T
      exact absurd c_17 (by decide)
    · --6F17F
      refine lv_lconst (v := 0) hx hb dX3_merge_20 (by decide) ?_
      refine m_lret () hx hb hr hlocks hP hD hS dX3_merge_21 (by first | exact Nat.le_of_ble_eq_true rfl | omega) (by first | exact Nat.le_of_ble_eq_true rfl | omega) ?_
      rfl

set_option maxHeartbeats 4000000 in
set_option maxRecDepth 100000 in
theorem c_X3_computeIfAbsent_F (l : Launch) (D : va_G) (I J : ClassId) (sz : Nat) (yZ : Nat) (akZ : Nat) (avZ : Nat) (awZ : Nat) (aoZ : Nat) (amZ : Nat) (lkZ : Nat) (lvZ : Nat) (luZ : Nat) (npZ : Nat) (iwZ : Int32) (imZ : Int32) (ilZ : Int32) (irZ : Int32) (iuZ : Int32) (iaZ : Int32) (icZ : Int32) (fZ : Nat → Int32) (kZ : Int32) (hfull : fullB (rL fZ kZ npZ) npZ = true) (hnp : npZ ≤ 200) : mCl l yX3_computeIfAbsent wsX3_computeIfAbsent 3 66 0 0 D I J [.ref yZ, .int kZ] [(yZ, .inr (3, [.ref akZ, .ref avZ, .ref awZ, .ref aoZ, .ref amZ, .ref lkZ, .ref lvZ, .ref luZ, .int (nI npZ), .int iwZ, .int imZ, .int ilZ, .int irZ, .int iuZ, .int iaZ, .int icZ])), (akZ, .inl (I, 200, .inl fZ))] sz (fun (x : Int64) (u : Unit) => x = 0) (fun (u : Unit) => [(yZ, .inr (3, [.ref akZ, .ref avZ, .ref awZ, .ref aoZ, .ref amZ, .ref lkZ, .ref lvZ, .ref luZ, .int (nI npZ), .int iwZ, .int imZ, .int ilZ, .int irZ, .int iuZ, .int iaZ, .int 1])), (akZ, .inl (I, 200, .inl fZ))]) := by
  refine m_ofl (cc := cX3_computeIfAbsent) (maxL := 2) (ret := (some .long)) (by decide) rfl (Nat.le_of_ble_eq_true rfl) ?_
  intro p e s m args below meth c A ls hx hb hr hlocks hml hts hown hin hK hP hD hA hS hl
  have hl : lv_has ls 2 [(0, .ref yZ), (1, .int kZ)] := hl
  have hP : va_P D vwCl [(yZ, .inr (3, [.ref akZ, .ref avZ, .ref awZ, .ref aoZ, .ref amZ, .ref lkZ, .ref lvZ, .ref luZ, .int (nI npZ), .int iwZ, .int imZ, .int ilZ, .int irZ, .int iuZ, .int iaZ, .int icZ])), (akZ, .inl (I, 200, .inl fZ))] s.heap := hP
  have hD : va_D A [(yZ, .inr (3, [.ref akZ, .ref avZ, .ref awZ, .ref aoZ, .ref amZ, .ref lkZ, .ref lvZ, .ref luZ, .int (nI npZ), .int iwZ, .int imZ, .int ilZ, .int irZ, .int iuZ, .int iaZ, .int icZ])), (akZ, .inl (I, 200, .inl fZ))] := hD
  refine lv_aload_n hx hb dX3_computeIfAbsent_0 rfl (lv_at hl 0 rfl) ?_
  refine lv_aload_n hx hb dX3_computeIfAbsent_1 rfl (lv_at hl 0 rfl) ?_
  refine lv_iload_n hx hb dX3_computeIfAbsent_2 rfl (lv_at hl 1 rfl) ?_
  refine m_Vi (As := [.int kZ]) (wr := []) (ws2 := fun _ => [(yZ, .inr (3, [.ref akZ, .ref avZ, .ref awZ, .ref aoZ, .ref amZ, .ref lkZ, .ref lvZ, .ref luZ, .int (nI npZ), .int iwZ, .int imZ, .int ilZ, .int irZ, .int iuZ, .int iaZ, .int icZ])), (akZ, .inl (I, 200, .inl fZ))]) ⟨hx, hb, hml, hown, hts⟩ hA hK hP hD hS hl.1 (c_X3_isFull l D I J s.heap.size yZ akZ avZ awZ aoZ amZ lkZ lvZ luZ npZ iwZ imZ ilZ irZ iuZ iaZ icZ fZ kZ (by omega)) (cwV 1 hts gX3_computeIfAbsent_X3_isFull rfl rfl rfl (by decide +kernel) ⟨Nat.le_of_ble_eq_true rfl, Nat.le_of_ble_eq_true rfl⟩) [0, 1] [] [0, 1] 0 3 rfl rfl rfl rfl rfl (by decide) (by decide) (by decide) (by decide) (fun _ => rfl) rfl rfl (Nat.le_of_ble_eq_true rfl) dX3_computeIfAbsent_3 ⟨(by exact Nat.le_of_ble_eq_true rfl), (by exact Nat.le_of_ble_eq_true rfl)⟩ (fun r_3 u_3 H locs hw_3 hP hD hS => ?_)
  try dsimp only at hw_3
  have hP : va_P D vwCl [(yZ, .inr (3, [.ref akZ, .ref avZ, .ref awZ, .ref aoZ, .ref amZ, .ref lkZ, .ref lvZ, .ref luZ, .int (nI npZ), .int iwZ, .int imZ, .int ilZ, .int irZ, .int iuZ, .int iaZ, .int icZ])), (akZ, .inl (I, 200, .inl fZ))] H := hP
  have hD : va_D A [(yZ, .inr (3, [.ref akZ, .ref avZ, .ref awZ, .ref aoZ, .ref amZ, .ref lkZ, .ref lvZ, .ref luZ, .int (nI npZ), .int iwZ, .int imZ, .int ilZ, .int irZ, .int iuZ, .int iaZ, .int icZ])), (akZ, .inl (I, 200, .inl fZ))] := hD
  subst hw_3
  refine lv_if_eq (tgt := 13) hx hb dX3_computeIfAbsent_6 (by decide) (fun c_6 => ?_) (fun c_6 => ?_)
  · --6T
    exact absurd c_6 (by rw [hfull]; decide)
  · --6F
    refine lv_iconst (v := 1) hx hb dX3_computeIfAbsent_9 (by decide) ?_
    refine lv_goto (tgt := 14) hx hb dX3_computeIfAbsent_10 (by decide) ?_
    refine m_Vi (As := [.int 1]) (wr := [(akZ, .inl (I, 200, .inl fZ))]) (ws2 := fun _ => [(yZ, .inr (3, [.ref akZ, .ref avZ, .ref awZ, .ref aoZ, .ref amZ, .ref lkZ, .ref lvZ, .ref luZ, .int (nI npZ), .int iwZ, .int imZ, .int ilZ, .int irZ, .int iuZ, .int iaZ, .int 1])), (akZ, .inl (I, 200, .inl fZ))]) ⟨hx, hb, hml, hown, hts⟩ hA hK hP hD hS hl.1 (c_X3_fails l D I J H.size yZ akZ avZ awZ aoZ amZ lkZ lvZ luZ (nI npZ) iwZ imZ ilZ irZ iuZ iaZ icZ 1 ) (cwV 1 hts gX3_computeIfAbsent_X3_fails rfl rfl rfl (by decide +kernel) ⟨Nat.le_of_ble_eq_true rfl, Nat.le_of_ble_eq_true rfl⟩) [0] [1] [1, 0] 0 3 rfl rfl rfl rfl rfl (by decide) (by decide) (by decide) (by decide) (fun _ => rfl) rfl rfl (Nat.le_of_ble_eq_true rfl) dX3_computeIfAbsent_14 ⟨(by exact Nat.le_of_ble_eq_true rfl), (by exact Nat.le_of_ble_eq_true rfl)⟩ (fun r_14 u_14 H locs hw_14 hP hD hS => ?_)
    try dsimp only at hw_14
    have hP : va_P D vwCl [(yZ, .inr (3, [.ref akZ, .ref avZ, .ref awZ, .ref aoZ, .ref amZ, .ref lkZ, .ref lvZ, .ref luZ, .int (nI npZ), .int iwZ, .int imZ, .int ilZ, .int irZ, .int iuZ, .int iaZ, .int 1])), (akZ, .inl (I, 200, .inl fZ))] H := hP
    have hD : va_D A [(yZ, .inr (3, [.ref akZ, .ref avZ, .ref awZ, .ref aoZ, .ref amZ, .ref lkZ, .ref lvZ, .ref luZ, .int (nI npZ), .int iwZ, .int imZ, .int ilZ, .int irZ, .int iuZ, .int iaZ, .int 1])), (akZ, .inl (I, 200, .inl fZ))] := hD
    subst hw_14
    refine lv_if_eq (tgt := 22) hx hb dX3_computeIfAbsent_17 (by decide) (fun c_17 => ?_) (fun c_17 => ?_)
    · --6F17T
      exact absurd c_17 (by decide)
    · --6F17F
      refine lv_lconst (v := 0) hx hb dX3_computeIfAbsent_20 (by decide) ?_
      refine m_lret () hx hb hr hlocks hP hD hS dX3_computeIfAbsent_21 (by first | exact Nat.le_of_ble_eq_true rfl | omega) (by first | exact Nat.le_of_ble_eq_true rfl | omega) ?_
      rfl

set_option maxHeartbeats 4000000 in
set_option maxRecDepth 100000 in
theorem c_X3_put (l : Launch) (D : va_G) (I J : ClassId) (sz : Nat) (yZ : Nat) (akZ : Nat) (avZ : Nat) (awZ : Nat) (aoZ : Nat) (amZ : Nat) (lkZ : Nat) (lvZ : Nat) (luZ : Nat) (npZ : Nat) (iwZ : Int32) (imZ : Int32) (ilZ : Int32) (irZ : Int32) (iuZ : Int32) (iaZ : Int32) (icZ : Int32) (fZ : Nat → Int32) (gZ : Nat → Int32) (kZ : Int32) (vZ : Int32) (hfull : fullB (rL fZ kZ npZ) npZ = false) (hnp : npZ ≤ 200) : mCl l yX3_put wsX3_put 3 68 0 0 D I J [.ref yZ, .int kZ, .int vZ] [(yZ, .inr (3, [.ref akZ, .ref avZ, .ref awZ, .ref aoZ, .ref amZ, .ref lkZ, .ref lvZ, .ref luZ, .int (nI npZ), .int iwZ, .int imZ, .int ilZ, .int irZ, .int iuZ, .int iaZ, .int icZ])), (akZ, .inl (I, 200, .inl fZ)), (avZ, .inl (I, 200, .inl gZ))] sz (fun (x : Int64) (u : Unit) => x = (oN gZ (rL fZ kZ npZ))) (fun (u : Unit) => [(yZ, .inr (3, [.ref akZ, .ref avZ, .ref awZ, .ref aoZ, .ref amZ, .ref lkZ, .ref lvZ, .ref luZ, .int (nI (insN npZ (rL fZ kZ npZ))), .int iwZ, .int imZ, .int ilZ, .int irZ, .int iuZ, .int iaZ, .int 0])), (akZ, .inl (I, 200, .inl (insF fZ npZ kZ (rL fZ kZ npZ)))), (avZ, .inl (I, 200, .inl (insG gZ npZ vZ (rL fZ kZ npZ))))]) := by
  refine m_ofl (cc := cX3_put) (maxL := 5) (ret := (some .long)) (by decide) rfl (Nat.le_of_ble_eq_true rfl) ?_
  intro p e s m args below meth c A ls hx hb hr hlocks hml hts hown hin hK hP hD hA hS hl
  have hl : lv_has ls 5 [(0, .ref yZ), (1, .int kZ), (2, .int vZ)] := hl
  have hP : va_P D vwCl [(yZ, .inr (3, [.ref akZ, .ref avZ, .ref awZ, .ref aoZ, .ref amZ, .ref lkZ, .ref lvZ, .ref luZ, .int (nI npZ), .int iwZ, .int imZ, .int ilZ, .int irZ, .int iuZ, .int iaZ, .int icZ])), (akZ, .inl (I, 200, .inl fZ)), (avZ, .inl (I, 200, .inl gZ))] s.heap := hP
  have hD : va_D A [(yZ, .inr (3, [.ref akZ, .ref avZ, .ref awZ, .ref aoZ, .ref amZ, .ref lkZ, .ref lvZ, .ref luZ, .int (nI npZ), .int iwZ, .int imZ, .int ilZ, .int irZ, .int iuZ, .int iaZ, .int icZ])), (akZ, .inl (I, 200, .inl fZ)), (avZ, .inl (I, 200, .inl gZ))] := hD
  have hnew : rL fZ kZ npZ = none → npZ < 200 := fun q => by
    rcases Nat.lt_or_ge npZ 200 with h | h
    · exact h
    · have e : npZ = 200 := by omega
      rw [q, e] at hfull
      exact absurd hfull (by decide)
  refine lv_aload_n hx hb dX3_put_0 rfl (lv_at hl 0 rfl) ?_
  refine lv_aload_n hx hb dX3_put_1 rfl (lv_at hl 0 rfl) ?_
  refine lv_iload_n hx hb dX3_put_2 rfl (lv_at hl 1 rfl) ?_
  refine m_Vi (As := [.int kZ]) (wr := [(avZ, .inl (I, 200, .inl gZ))]) (ws2 := fun _ => [(yZ, .inr (3, [.ref akZ, .ref avZ, .ref awZ, .ref aoZ, .ref amZ, .ref lkZ, .ref lvZ, .ref luZ, .int (nI npZ), .int iwZ, .int imZ, .int ilZ, .int irZ, .int iuZ, .int iaZ, .int icZ])), (akZ, .inl (I, 200, .inl fZ)), (avZ, .inl (I, 200, .inl gZ))]) ⟨hx, hb, hml, hown, hts⟩ hA hK hP hD hS hl.1 (c_X3_isFull l D I J s.heap.size yZ akZ avZ awZ aoZ amZ lkZ lvZ luZ npZ iwZ imZ ilZ irZ iuZ iaZ icZ fZ kZ (by omega)) (cwV 1 hts gX3_put_X3_isFull rfl rfl rfl (by decide +kernel) ⟨Nat.le_of_ble_eq_true rfl, Nat.le_of_ble_eq_true rfl⟩) [0, 1] [2] [1, 2, 0] 0 3 rfl rfl rfl rfl rfl (by decide) (by decide) (by decide) (by decide) (fun _ => rfl) rfl rfl (Nat.le_of_ble_eq_true rfl) dX3_put_3 ⟨(by exact Nat.le_of_ble_eq_true rfl), (by exact Nat.le_of_ble_eq_true rfl)⟩ (fun r_3 u_3 H locs hw_3 hP hD hS => ?_)
  try dsimp only at hw_3
  have hP : va_P D vwCl [(yZ, .inr (3, [.ref akZ, .ref avZ, .ref awZ, .ref aoZ, .ref amZ, .ref lkZ, .ref lvZ, .ref luZ, .int (nI npZ), .int iwZ, .int imZ, .int ilZ, .int irZ, .int iuZ, .int iaZ, .int icZ])), (akZ, .inl (I, 200, .inl fZ)), (avZ, .inl (I, 200, .inl gZ))] H := hP
  have hD : va_D A [(yZ, .inr (3, [.ref akZ, .ref avZ, .ref awZ, .ref aoZ, .ref amZ, .ref lkZ, .ref lvZ, .ref luZ, .int (nI npZ), .int iwZ, .int imZ, .int ilZ, .int irZ, .int iuZ, .int iaZ, .int icZ])), (akZ, .inl (I, 200, .inl fZ)), (avZ, .inl (I, 200, .inl gZ))] := hD
  subst hw_3
  refine lv_if_eq (tgt := 13) hx hb dX3_put_6 (by decide) (fun c_6 => ?_) (fun c_6 => ?_)
  · --6T
    refine lv_iconst (v := 0) hx hb dX3_put_13 (by decide) ?_
    refine m_Vi (As := [.int 0]) (wr := [(akZ, .inl (I, 200, .inl fZ)), (avZ, .inl (I, 200, .inl gZ))]) (ws2 := fun _ => [(yZ, .inr (3, [.ref akZ, .ref avZ, .ref awZ, .ref aoZ, .ref amZ, .ref lkZ, .ref lvZ, .ref luZ, .int (nI npZ), .int iwZ, .int imZ, .int ilZ, .int irZ, .int iuZ, .int iaZ, .int 0])), (akZ, .inl (I, 200, .inl fZ)), (avZ, .inl (I, 200, .inl gZ))]) ⟨hx, hb, hml, hown, hts⟩ hA hK hP hD hS hl.1 (c_X3_fails l D I J H.size yZ akZ avZ awZ aoZ amZ lkZ lvZ luZ (nI npZ) iwZ imZ ilZ irZ iuZ iaZ icZ 0 ) (cwV 1 hts gX3_put_X3_fails rfl rfl rfl (by decide +kernel) ⟨Nat.le_of_ble_eq_true rfl, Nat.le_of_ble_eq_true rfl⟩) [0] [1, 2] [2, 0, 1] 0 3 rfl rfl rfl rfl rfl (by decide) (by decide) (by decide) (by decide) (fun _ => rfl) rfl rfl (Nat.le_of_ble_eq_true rfl) dX3_put_14 ⟨(by exact Nat.le_of_ble_eq_true rfl), (by exact Nat.le_of_ble_eq_true rfl)⟩ (fun r_14 u_14 H locs hw_14 hP hD hS => ?_)
    try dsimp only at hw_14
    have hP : va_P D vwCl [(yZ, .inr (3, [.ref akZ, .ref avZ, .ref awZ, .ref aoZ, .ref amZ, .ref lkZ, .ref lvZ, .ref luZ, .int (nI npZ), .int iwZ, .int imZ, .int ilZ, .int irZ, .int iuZ, .int iaZ, .int 0])), (akZ, .inl (I, 200, .inl fZ)), (avZ, .inl (I, 200, .inl gZ))] H := hP
    have hD : va_D A [(yZ, .inr (3, [.ref akZ, .ref avZ, .ref awZ, .ref aoZ, .ref amZ, .ref lkZ, .ref lvZ, .ref luZ, .int (nI npZ), .int iwZ, .int imZ, .int ilZ, .int irZ, .int iuZ, .int iaZ, .int 0])), (akZ, .inl (I, 200, .inl fZ)), (avZ, .inl (I, 200, .inl gZ))] := hD
    subst hw_14
    refine lv_if_eq (tgt := 22) hx hb dX3_put_17 (by decide) (fun c_17 => ?_) (fun c_17 => ?_)
    · --6T17T
      refine lv_aload_n hx hb dX3_put_22 rfl (lv_at hl 0 rfl) ?_
      refine lv_iload_n hx hb dX3_put_23 rfl (lv_at hl 1 rfl) ?_
      refine m_Vl (As := [.int kZ]) (wr := []) (ws2 := fun _ => [(yZ, .inr (3, [.ref akZ, .ref avZ, .ref awZ, .ref aoZ, .ref amZ, .ref lkZ, .ref lvZ, .ref luZ, .int (nI npZ), .int iwZ, .int imZ, .int ilZ, .int irZ, .int iuZ, .int iaZ, .int 0])), (akZ, .inl (I, 200, .inl fZ)), (avZ, .inl (I, 200, .inl gZ))]) ⟨hx, hb, hml, hown, hts⟩ hA hK hP hD hS hl.1 (c_X3_now l D I J H.size yZ akZ avZ awZ aoZ amZ lkZ lvZ luZ npZ iwZ imZ ilZ irZ iuZ iaZ 0 fZ gZ kZ (by omega)) (cwV 1 hts gX3_put_X3_now rfl rfl rfl (by decide +kernel) ⟨Nat.le_of_ble_eq_true rfl, Nat.le_of_ble_eq_true rfl⟩) [0, 1, 2] [] [0, 1, 2] 0 3 rfl rfl rfl rfl rfl (by decide) (by decide) (by decide) (by decide) (fun _ => rfl) rfl rfl (Nat.le_of_ble_eq_true rfl) dX3_put_24 ⟨(by exact Nat.le_of_ble_eq_true rfl), (by exact Nat.le_of_ble_eq_true rfl)⟩ (fun r_24 u_24 H locs hw_24 hP hD hS => ?_)
      try dsimp only at hw_24
      have hP : va_P D vwCl [(yZ, .inr (3, [.ref akZ, .ref avZ, .ref awZ, .ref aoZ, .ref amZ, .ref lkZ, .ref lvZ, .ref luZ, .int (nI npZ), .int iwZ, .int imZ, .int ilZ, .int irZ, .int iuZ, .int iaZ, .int 0])), (akZ, .inl (I, 200, .inl fZ)), (avZ, .inl (I, 200, .inl gZ))] H := hP
      have hD : va_D A [(yZ, .inr (3, [.ref akZ, .ref avZ, .ref awZ, .ref aoZ, .ref amZ, .ref lkZ, .ref lvZ, .ref luZ, .int (nI npZ), .int iwZ, .int imZ, .int ilZ, .int irZ, .int iuZ, .int iaZ, .int 0])), (akZ, .inl (I, 200, .inl fZ)), (avZ, .inl (I, 200, .inl gZ))] := hD
      subst hw_24
      refine lv_lstore_n (lv' := [(3, .long (oN gZ (rL fZ kZ npZ))), (0, .ref yZ), (1, .int kZ), (2, .int vZ)]) hx hb dX3_put_27 rfl hl (by decide) rfl (fun ls hl => ?_)
      refine lv_aload_n hx hb dX3_put_28 rfl (lv_at hl 1 rfl) ?_
      refine lv_iload_n hx hb dX3_put_29 rfl (lv_at hl 2 rfl) ?_
      refine lv_iload_n hx hb dX3_put_30 rfl (lv_at hl 3 rfl) ?_
      refine m_Vv (As := [.int kZ, .int vZ]) (wr := []) (ws2 := fun _ => [(yZ, .inr (3, [.ref akZ, .ref avZ, .ref awZ, .ref aoZ, .ref amZ, .ref lkZ, .ref lvZ, .ref luZ, .int (nI (insN npZ (rL fZ kZ npZ))), .int iwZ, .int imZ, .int ilZ, .int irZ, .int iuZ, .int iaZ, .int 0])), (akZ, .inl (I, 200, .inl (insF fZ npZ kZ (rL fZ kZ npZ)))), (avZ, .inl (I, 200, .inl (insG gZ npZ vZ (rL fZ kZ npZ))))]) ⟨hx, hb, hml, hown, hts⟩ hA hK hP hD hS hl.1 (c_X3_lays l D I J H.size yZ akZ avZ awZ aoZ amZ lkZ lvZ luZ npZ iwZ imZ ilZ irZ iuZ iaZ 0 fZ gZ kZ vZ (by exact hnew) (by omega)) (cwV 2 hts gX3_put_X3_lays rfl rfl rfl (by decide +kernel) ⟨Nat.le_of_ble_eq_true rfl, Nat.le_of_ble_eq_true rfl⟩) [0, 1, 2] [] [0, 1, 2] 0 3 rfl rfl rfl rfl rfl (by decide) (by decide) (by decide) (by decide) (fun _ => rfl) rfl rfl (Nat.le_of_ble_eq_true rfl) dX3_put_31 ⟨(by exact Nat.le_of_ble_eq_true rfl), (by exact Nat.le_of_ble_eq_true rfl)⟩ (fun u_31 H locs hw_31 hP hD hS => ?_)
      clear hw_31
      have hP : va_P D vwCl [(yZ, .inr (3, [.ref akZ, .ref avZ, .ref awZ, .ref aoZ, .ref amZ, .ref lkZ, .ref lvZ, .ref luZ, .int (nI (insN npZ (rL fZ kZ npZ))), .int iwZ, .int imZ, .int ilZ, .int irZ, .int iuZ, .int iaZ, .int 0])), (akZ, .inl (I, 200, .inl (insF fZ npZ kZ (rL fZ kZ npZ)))), (avZ, .inl (I, 200, .inl (insG gZ npZ vZ (rL fZ kZ npZ))))] H := hP
      have hD : va_D A [(yZ, .inr (3, [.ref akZ, .ref avZ, .ref awZ, .ref aoZ, .ref amZ, .ref lkZ, .ref lvZ, .ref luZ, .int (nI (insN npZ (rL fZ kZ npZ))), .int iwZ, .int imZ, .int ilZ, .int irZ, .int iuZ, .int iaZ, .int 0])), (akZ, .inl (I, 200, .inl (insF fZ npZ kZ (rL fZ kZ npZ)))), (avZ, .inl (I, 200, .inl (insG gZ npZ vZ (rL fZ kZ npZ))))] := hD
      refine lv_lload_n hx hb dX3_put_34 rfl (lv_at hl 0 rfl) ?_
      refine m_lret () hx hb hr hlocks hP hD hS dX3_put_35 (by first | exact Nat.le_of_ble_eq_true rfl | omega) (by first | exact Nat.le_of_ble_eq_true rfl | omega) ?_
      rfl
    · --6T17F
      exact absurd (by decide) c_17
  · --6F
    exact absurd (by rw [hfull]; rfl) c_6

set_option maxHeartbeats 4000000 in
set_option maxRecDepth 100000 in
theorem c_X3_putIfAbsent (l : Launch) (D : va_G) (I J : ClassId) (sz : Nat) (yZ : Nat) (akZ : Nat) (avZ : Nat) (awZ : Nat) (aoZ : Nat) (amZ : Nat) (lkZ : Nat) (lvZ : Nat) (luZ : Nat) (npZ : Nat) (iwZ : Int32) (imZ : Int32) (ilZ : Int32) (irZ : Int32) (iuZ : Int32) (iaZ : Int32) (icZ : Int32) (fZ : Nat → Int32) (gZ : Nat → Int32) (kZ : Int32) (vZ : Int32) (hfull : fullB (rL fZ kZ npZ) npZ = false) (hnp : npZ ≤ 200) : mCl l yX3_putIfAbsent wsX3_putIfAbsent 3 68 0 0 D I J [.ref yZ, .int kZ, .int vZ] [(yZ, .inr (3, [.ref akZ, .ref avZ, .ref awZ, .ref aoZ, .ref amZ, .ref lkZ, .ref lvZ, .ref luZ, .int (nI npZ), .int iwZ, .int imZ, .int ilZ, .int irZ, .int iuZ, .int iaZ, .int icZ])), (akZ, .inl (I, 200, .inl fZ)), (avZ, .inl (I, 200, .inl gZ))] sz (fun (x : Int64) (u : Unit) => x = (oN gZ (rL fZ kZ npZ))) (fun (u : Unit) => [(yZ, .inr (3, [.ref akZ, .ref avZ, .ref awZ, .ref aoZ, .ref amZ, .ref lkZ, .ref lvZ, .ref luZ, .int (nI (insN npZ (rL fZ kZ npZ))), .int iwZ, .int imZ, .int ilZ, .int irZ, .int iuZ, .int iaZ, .int 0])), (akZ, .inl (I, 200, .inl (insF fZ npZ kZ (rL fZ kZ npZ)))), (avZ, .inl (I, 200, .inl (insA gZ npZ vZ (rL fZ kZ npZ))))]) := by
  refine m_ofl (cc := cX3_putIfAbsent) (maxL := 5) (ret := (some .long)) (by decide) rfl (Nat.le_of_ble_eq_true rfl) ?_
  intro p e s m args below meth c A ls hx hb hr hlocks hml hts hown hin hK hP hD hA hS hl
  have hl : lv_has ls 5 [(0, .ref yZ), (1, .int kZ), (2, .int vZ)] := hl
  have hP : va_P D vwCl [(yZ, .inr (3, [.ref akZ, .ref avZ, .ref awZ, .ref aoZ, .ref amZ, .ref lkZ, .ref lvZ, .ref luZ, .int (nI npZ), .int iwZ, .int imZ, .int ilZ, .int irZ, .int iuZ, .int iaZ, .int icZ])), (akZ, .inl (I, 200, .inl fZ)), (avZ, .inl (I, 200, .inl gZ))] s.heap := hP
  have hD : va_D A [(yZ, .inr (3, [.ref akZ, .ref avZ, .ref awZ, .ref aoZ, .ref amZ, .ref lkZ, .ref lvZ, .ref luZ, .int (nI npZ), .int iwZ, .int imZ, .int ilZ, .int irZ, .int iuZ, .int iaZ, .int icZ])), (akZ, .inl (I, 200, .inl fZ)), (avZ, .inl (I, 200, .inl gZ))] := hD
  have hnew : rL fZ kZ npZ = none → npZ < 200 := fun q => by
    rcases Nat.lt_or_ge npZ 200 with h | h
    · exact h
    · have e : npZ = 200 := by omega
      rw [q, e] at hfull
      exact absurd hfull (by decide)
  refine lv_aload_n hx hb dX3_putIfAbsent_0 rfl (lv_at hl 0 rfl) ?_
  refine lv_aload_n hx hb dX3_putIfAbsent_1 rfl (lv_at hl 0 rfl) ?_
  refine lv_iload_n hx hb dX3_putIfAbsent_2 rfl (lv_at hl 1 rfl) ?_
  refine m_Vi (As := [.int kZ]) (wr := [(avZ, .inl (I, 200, .inl gZ))]) (ws2 := fun _ => [(yZ, .inr (3, [.ref akZ, .ref avZ, .ref awZ, .ref aoZ, .ref amZ, .ref lkZ, .ref lvZ, .ref luZ, .int (nI npZ), .int iwZ, .int imZ, .int ilZ, .int irZ, .int iuZ, .int iaZ, .int icZ])), (akZ, .inl (I, 200, .inl fZ)), (avZ, .inl (I, 200, .inl gZ))]) ⟨hx, hb, hml, hown, hts⟩ hA hK hP hD hS hl.1 (c_X3_isFull l D I J s.heap.size yZ akZ avZ awZ aoZ amZ lkZ lvZ luZ npZ iwZ imZ ilZ irZ iuZ iaZ icZ fZ kZ (by omega)) (cwV 1 hts gX3_putIfAbsent_X3_isFull rfl rfl rfl (by decide +kernel) ⟨Nat.le_of_ble_eq_true rfl, Nat.le_of_ble_eq_true rfl⟩) [0, 1] [2] [1, 2, 0] 0 3 rfl rfl rfl rfl rfl (by decide) (by decide) (by decide) (by decide) (fun _ => rfl) rfl rfl (Nat.le_of_ble_eq_true rfl) dX3_putIfAbsent_3 ⟨(by exact Nat.le_of_ble_eq_true rfl), (by exact Nat.le_of_ble_eq_true rfl)⟩ (fun r_3 u_3 H locs hw_3 hP hD hS => ?_)
  try dsimp only at hw_3
  have hP : va_P D vwCl [(yZ, .inr (3, [.ref akZ, .ref avZ, .ref awZ, .ref aoZ, .ref amZ, .ref lkZ, .ref lvZ, .ref luZ, .int (nI npZ), .int iwZ, .int imZ, .int ilZ, .int irZ, .int iuZ, .int iaZ, .int icZ])), (akZ, .inl (I, 200, .inl fZ)), (avZ, .inl (I, 200, .inl gZ))] H := hP
  have hD : va_D A [(yZ, .inr (3, [.ref akZ, .ref avZ, .ref awZ, .ref aoZ, .ref amZ, .ref lkZ, .ref lvZ, .ref luZ, .int (nI npZ), .int iwZ, .int imZ, .int ilZ, .int irZ, .int iuZ, .int iaZ, .int icZ])), (akZ, .inl (I, 200, .inl fZ)), (avZ, .inl (I, 200, .inl gZ))] := hD
  subst hw_3
  refine lv_if_eq (tgt := 13) hx hb dX3_putIfAbsent_6 (by decide) (fun c_6 => ?_) (fun c_6 => ?_)
  · --6T
    refine lv_iconst (v := 0) hx hb dX3_putIfAbsent_13 (by decide) ?_
    refine m_Vi (As := [.int 0]) (wr := [(akZ, .inl (I, 200, .inl fZ)), (avZ, .inl (I, 200, .inl gZ))]) (ws2 := fun _ => [(yZ, .inr (3, [.ref akZ, .ref avZ, .ref awZ, .ref aoZ, .ref amZ, .ref lkZ, .ref lvZ, .ref luZ, .int (nI npZ), .int iwZ, .int imZ, .int ilZ, .int irZ, .int iuZ, .int iaZ, .int 0])), (akZ, .inl (I, 200, .inl fZ)), (avZ, .inl (I, 200, .inl gZ))]) ⟨hx, hb, hml, hown, hts⟩ hA hK hP hD hS hl.1 (c_X3_fails l D I J H.size yZ akZ avZ awZ aoZ amZ lkZ lvZ luZ (nI npZ) iwZ imZ ilZ irZ iuZ iaZ icZ 0 ) (cwV 1 hts gX3_putIfAbsent_X3_fails rfl rfl rfl (by decide +kernel) ⟨Nat.le_of_ble_eq_true rfl, Nat.le_of_ble_eq_true rfl⟩) [0] [1, 2] [2, 0, 1] 0 3 rfl rfl rfl rfl rfl (by decide) (by decide) (by decide) (by decide) (fun _ => rfl) rfl rfl (Nat.le_of_ble_eq_true rfl) dX3_putIfAbsent_14 ⟨(by exact Nat.le_of_ble_eq_true rfl), (by exact Nat.le_of_ble_eq_true rfl)⟩ (fun r_14 u_14 H locs hw_14 hP hD hS => ?_)
    try dsimp only at hw_14
    have hP : va_P D vwCl [(yZ, .inr (3, [.ref akZ, .ref avZ, .ref awZ, .ref aoZ, .ref amZ, .ref lkZ, .ref lvZ, .ref luZ, .int (nI npZ), .int iwZ, .int imZ, .int ilZ, .int irZ, .int iuZ, .int iaZ, .int 0])), (akZ, .inl (I, 200, .inl fZ)), (avZ, .inl (I, 200, .inl gZ))] H := hP
    have hD : va_D A [(yZ, .inr (3, [.ref akZ, .ref avZ, .ref awZ, .ref aoZ, .ref amZ, .ref lkZ, .ref lvZ, .ref luZ, .int (nI npZ), .int iwZ, .int imZ, .int ilZ, .int irZ, .int iuZ, .int iaZ, .int 0])), (akZ, .inl (I, 200, .inl fZ)), (avZ, .inl (I, 200, .inl gZ))] := hD
    subst hw_14
    refine lv_if_eq (tgt := 22) hx hb dX3_putIfAbsent_17 (by decide) (fun c_17 => ?_) (fun c_17 => ?_)
    · --6T17T
      refine lv_aload_n hx hb dX3_putIfAbsent_22 rfl (lv_at hl 0 rfl) ?_
      refine lv_iload_n hx hb dX3_putIfAbsent_23 rfl (lv_at hl 1 rfl) ?_
      refine m_Vl (As := [.int kZ]) (wr := []) (ws2 := fun _ => [(yZ, .inr (3, [.ref akZ, .ref avZ, .ref awZ, .ref aoZ, .ref amZ, .ref lkZ, .ref lvZ, .ref luZ, .int (nI npZ), .int iwZ, .int imZ, .int ilZ, .int irZ, .int iuZ, .int iaZ, .int 0])), (akZ, .inl (I, 200, .inl fZ)), (avZ, .inl (I, 200, .inl gZ))]) ⟨hx, hb, hml, hown, hts⟩ hA hK hP hD hS hl.1 (c_X3_now l D I J H.size yZ akZ avZ awZ aoZ amZ lkZ lvZ luZ npZ iwZ imZ ilZ irZ iuZ iaZ 0 fZ gZ kZ (by omega)) (cwV 1 hts gX3_putIfAbsent_X3_now rfl rfl rfl (by decide +kernel) ⟨Nat.le_of_ble_eq_true rfl, Nat.le_of_ble_eq_true rfl⟩) [0, 1, 2] [] [0, 1, 2] 0 3 rfl rfl rfl rfl rfl (by decide) (by decide) (by decide) (by decide) (fun _ => rfl) rfl rfl (Nat.le_of_ble_eq_true rfl) dX3_putIfAbsent_24 ⟨(by exact Nat.le_of_ble_eq_true rfl), (by exact Nat.le_of_ble_eq_true rfl)⟩ (fun r_24 u_24 H locs hw_24 hP hD hS => ?_)
      try dsimp only at hw_24
      have hP : va_P D vwCl [(yZ, .inr (3, [.ref akZ, .ref avZ, .ref awZ, .ref aoZ, .ref amZ, .ref lkZ, .ref lvZ, .ref luZ, .int (nI npZ), .int iwZ, .int imZ, .int ilZ, .int irZ, .int iuZ, .int iaZ, .int 0])), (akZ, .inl (I, 200, .inl fZ)), (avZ, .inl (I, 200, .inl gZ))] H := hP
      have hD : va_D A [(yZ, .inr (3, [.ref akZ, .ref avZ, .ref awZ, .ref aoZ, .ref amZ, .ref lkZ, .ref lvZ, .ref luZ, .int (nI npZ), .int iwZ, .int imZ, .int ilZ, .int irZ, .int iuZ, .int iaZ, .int 0])), (akZ, .inl (I, 200, .inl fZ)), (avZ, .inl (I, 200, .inl gZ))] := hD
      subst hw_24
      refine lv_lstore_n (lv' := [(3, .long (oN gZ (rL fZ kZ npZ))), (0, .ref yZ), (1, .int kZ), (2, .int vZ)]) hx hb dX3_putIfAbsent_27 rfl hl (by decide) rfl (fun ls hl => ?_)
      refine lv_lload_n hx hb dX3_putIfAbsent_28 rfl (lv_at hl 0 rfl) ?_
      refine lv_ldc2 (v := 4294967296) hx hb hown (hts (.constantLong RX3 52 (4294967296)) (List.mem_of_getElem? (i := 1) (by decide +kernel))) dX3_putIfAbsent_29 ?_
      refine W.lcmp hx hb dX3_putIfAbsent_32 ?_
      refine lv_if_ne (tgt := 42) hx hb dX3_putIfAbsent_33 (by decide) (fun c_33 => ?_) (fun c_33 => ?_)
      · --6T17T33T
        obtain ⟨jZ, ho⟩ := oN_some (fun q9 => c_33 (lg_cmp_0.mpr q9))
        refine lv_lload_n hx hb dX3_putIfAbsent_42 rfl (lv_at hl 0 rfl) ?_
        have hEq : [(yZ, .inr (3, [.ref akZ, .ref avZ, .ref awZ, .ref aoZ, .ref amZ, .ref lkZ, .ref lvZ, .ref luZ, .int (nI npZ), .int iwZ, .int imZ, .int ilZ, .int irZ, .int iuZ, .int iaZ, .int 0])), (akZ, .inl (I, 200, .inl fZ)), (avZ, .inl (I, 200, .inl gZ))] = ([(yZ, .inr (3, [.ref akZ, .ref avZ, .ref awZ, .ref aoZ, .ref amZ, .ref lkZ, .ref lvZ, .ref luZ, .int (nI (insN npZ (rL fZ kZ npZ))), .int iwZ, .int imZ, .int ilZ, .int irZ, .int iuZ, .int iaZ, .int 0])), (akZ, .inl (I, 200, .inl (insF fZ npZ kZ (rL fZ kZ npZ)))), (avZ, .inl (I, 200, .inl (insA gZ npZ vZ (rL fZ kZ npZ))))] : va_W) := (by rw [ho]; rfl)
        rw [hEq] at hP hD
        refine m_lret () hx hb hr hlocks hP hD hS dX3_putIfAbsent_43 (by first | exact Nat.le_of_ble_eq_true rfl | omega) (by first | exact Nat.le_of_ble_eq_true rfl | omega) ?_
        rfl
      · --6T17T33F
        have ho : rL fZ kZ npZ = none := oN_none (lg_cmp_0.mp c_33)
        refine lv_aload_n hx hb dX3_putIfAbsent_36 rfl (lv_at hl 1 rfl) ?_
        refine lv_iload_n hx hb dX3_putIfAbsent_37 rfl (lv_at hl 2 rfl) ?_
        refine lv_iload_n hx hb dX3_putIfAbsent_38 rfl (lv_at hl 3 rfl) ?_
        refine m_Vv (As := [.int kZ, .int vZ]) (wr := []) (ws2 := fun _ => [(yZ, .inr (3, [.ref akZ, .ref avZ, .ref awZ, .ref aoZ, .ref amZ, .ref lkZ, .ref lvZ, .ref luZ, .int (nI (insN npZ (rL fZ kZ npZ))), .int iwZ, .int imZ, .int ilZ, .int irZ, .int iuZ, .int iaZ, .int 0])), (akZ, .inl (I, 200, .inl (insF fZ npZ kZ (rL fZ kZ npZ)))), (avZ, .inl (I, 200, .inl (insG gZ npZ vZ (rL fZ kZ npZ))))]) ⟨hx, hb, hml, hown, hts⟩ hA hK hP hD hS hl.1 (c_X3_lays l D I J H.size yZ akZ avZ awZ aoZ amZ lkZ lvZ luZ npZ iwZ imZ ilZ irZ iuZ iaZ 0 fZ gZ kZ vZ (by exact hnew) (by omega)) (cwV 2 hts gX3_putIfAbsent_X3_lays rfl rfl rfl (by decide +kernel) ⟨Nat.le_of_ble_eq_true rfl, Nat.le_of_ble_eq_true rfl⟩) [0, 1, 2] [] [0, 1, 2] 0 3 rfl rfl rfl rfl rfl (by decide) (by decide) (by decide) (by decide) (fun _ => rfl) rfl rfl (Nat.le_of_ble_eq_true rfl) dX3_putIfAbsent_39 ⟨(by exact Nat.le_of_ble_eq_true rfl), (by exact Nat.le_of_ble_eq_true rfl)⟩ (fun u_39 H locs hw_39 hP hD hS => ?_)
        clear hw_39
        have hP : va_P D vwCl [(yZ, .inr (3, [.ref akZ, .ref avZ, .ref awZ, .ref aoZ, .ref amZ, .ref lkZ, .ref lvZ, .ref luZ, .int (nI (insN npZ (rL fZ kZ npZ))), .int iwZ, .int imZ, .int ilZ, .int irZ, .int iuZ, .int iaZ, .int 0])), (akZ, .inl (I, 200, .inl (insF fZ npZ kZ (rL fZ kZ npZ)))), (avZ, .inl (I, 200, .inl (insG gZ npZ vZ (rL fZ kZ npZ))))] H := hP
        have hD : va_D A [(yZ, .inr (3, [.ref akZ, .ref avZ, .ref awZ, .ref aoZ, .ref amZ, .ref lkZ, .ref lvZ, .ref luZ, .int (nI (insN npZ (rL fZ kZ npZ))), .int iwZ, .int imZ, .int ilZ, .int irZ, .int iuZ, .int iaZ, .int 0])), (akZ, .inl (I, 200, .inl (insF fZ npZ kZ (rL fZ kZ npZ)))), (avZ, .inl (I, 200, .inl (insG gZ npZ vZ (rL fZ kZ npZ))))] := hD
        refine lv_lload_n hx hb dX3_putIfAbsent_42 rfl (lv_at hl 0 rfl) ?_
        have hEq : [(yZ, .inr (3, [.ref akZ, .ref avZ, .ref awZ, .ref aoZ, .ref amZ, .ref lkZ, .ref lvZ, .ref luZ, .int (nI (insN npZ (rL fZ kZ npZ))), .int iwZ, .int imZ, .int ilZ, .int irZ, .int iuZ, .int iaZ, .int 0])), (akZ, .inl (I, 200, .inl (insF fZ npZ kZ (rL fZ kZ npZ)))), (avZ, .inl (I, 200, .inl (insG gZ npZ vZ (rL fZ kZ npZ))))] = ([(yZ, .inr (3, [.ref akZ, .ref avZ, .ref awZ, .ref aoZ, .ref amZ, .ref lkZ, .ref lvZ, .ref luZ, .int (nI (insN npZ (rL fZ kZ npZ))), .int iwZ, .int imZ, .int ilZ, .int irZ, .int iuZ, .int iaZ, .int 0])), (akZ, .inl (I, 200, .inl (insF fZ npZ kZ (rL fZ kZ npZ)))), (avZ, .inl (I, 200, .inl (insA gZ npZ vZ (rL fZ kZ npZ))))] : va_W) := (by rw [ho]; rfl)
        rw [hEq] at hP hD
        refine m_lret () hx hb hr hlocks hP hD hS dX3_putIfAbsent_43 (by first | exact Nat.le_of_ble_eq_true rfl | omega) (by first | exact Nat.le_of_ble_eq_true rfl | omega) ?_
        rfl
    · --6T17F
      exact absurd (by decide) c_17
  · --6F
    exact absurd (by rw [hfull]; rfl) c_6

set_option maxHeartbeats 4000000 in
set_option maxRecDepth 100000 in
theorem c_X3_get (l : Launch) (D : va_G) (I J : ClassId) (sz : Nat) (yZ : Nat) (akZ : Nat) (avZ : Nat) (awZ : Nat) (aoZ : Nat) (amZ : Nat) (lkZ : Nat) (lvZ : Nat) (luZ : Nat) (npZ : Nat) (iwZ : Int32) (imZ : Int32) (ilZ : Int32) (irZ : Int32) (iuZ : Int32) (iaZ : Int32) (icZ : Int32) (fZ : Nat → Int32) (gZ : Nat → Int32) (kZ : Int32) (hnp : npZ ≤ 200) : mCl l yX3_get wsX3_get 3 66 0 0 D I J [.ref yZ, .int kZ] [(yZ, .inr (3, [.ref akZ, .ref avZ, .ref awZ, .ref aoZ, .ref amZ, .ref lkZ, .ref lvZ, .ref luZ, .int (nI npZ), .int iwZ, .int imZ, .int ilZ, .int irZ, .int iuZ, .int iaZ, .int icZ])), (akZ, .inl (I, 200, .inl fZ)), (avZ, .inl (I, 200, .inl gZ))] sz (fun (x : Int64) (u : Unit) => x = (oN gZ (rL fZ kZ npZ))) (fun (u : Unit) => [(yZ, .inr (3, [.ref akZ, .ref avZ, .ref awZ, .ref aoZ, .ref amZ, .ref lkZ, .ref lvZ, .ref luZ, .int (nI npZ), .int iwZ, .int imZ, .int ilZ, .int irZ, .int iuZ, .int iaZ, .int 0])), (akZ, .inl (I, 200, .inl fZ)), (avZ, .inl (I, 200, .inl gZ))]) := by
  refine m_ofl (cc := cX3_get) (maxL := 2) (ret := (some .long)) (by decide) rfl (Nat.le_of_ble_eq_true rfl) ?_
  intro p e s m args below meth c A ls hx hb hr hlocks hml hts hown hin hK hP hD hA hS hl
  have hl : lv_has ls 2 [(0, .ref yZ), (1, .int kZ)] := hl
  have hP : va_P D vwCl [(yZ, .inr (3, [.ref akZ, .ref avZ, .ref awZ, .ref aoZ, .ref amZ, .ref lkZ, .ref lvZ, .ref luZ, .int (nI npZ), .int iwZ, .int imZ, .int ilZ, .int irZ, .int iuZ, .int iaZ, .int icZ])), (akZ, .inl (I, 200, .inl fZ)), (avZ, .inl (I, 200, .inl gZ))] s.heap := hP
  have hD : va_D A [(yZ, .inr (3, [.ref akZ, .ref avZ, .ref awZ, .ref aoZ, .ref amZ, .ref lkZ, .ref lvZ, .ref luZ, .int (nI npZ), .int iwZ, .int imZ, .int ilZ, .int irZ, .int iuZ, .int iaZ, .int icZ])), (akZ, .inl (I, 200, .inl fZ)), (avZ, .inl (I, 200, .inl gZ))] := hD
  refine lv_aload_n hx hb dX3_get_0 rfl (lv_at hl 0 rfl) ?_
  refine lv_iconst (v := 0) hx hb dX3_get_1 (by decide) ?_
  refine va_put (D := D) (ci := 3) (v := .int 0) (ty := .int) (C := RX3) (T := TX3) (N := 16) hx hb hts (fun _ h => List.mem_cons_of_mem _ (List.mem_append_right _ h)) tyX3 tyX3_ok nmX3 hown hK hP hD hS 0 rfl rfl 15 (by decide) (hts (.fieldLink RX3 38 "MapsByUseModel" "code" "I") (List.mem_of_getElem? (i := 1) (by decide +kernel))) (fun _ h9 => h9) rfl (by decide +kernel) rfl rfl (Nat.le_of_ble_eq_true rfl) dX3_get_2 (fun H locs hP hD hS => ?_)
  have hP : va_P D vwCl [(yZ, .inr (3, [.ref akZ, .ref avZ, .ref awZ, .ref aoZ, .ref amZ, .ref lkZ, .ref lvZ, .ref luZ, .int (nI npZ), .int iwZ, .int imZ, .int ilZ, .int irZ, .int iuZ, .int iaZ, .int 0])), (akZ, .inl (I, 200, .inl fZ)), (avZ, .inl (I, 200, .inl gZ))] H := hP
  have hD : va_D A [(yZ, .inr (3, [.ref akZ, .ref avZ, .ref awZ, .ref aoZ, .ref amZ, .ref lkZ, .ref lvZ, .ref luZ, .int (nI npZ), .int iwZ, .int imZ, .int ilZ, .int irZ, .int iuZ, .int iaZ, .int 0])), (akZ, .inl (I, 200, .inl fZ)), (avZ, .inl (I, 200, .inl gZ))] := hD
  refine lv_aload_n hx hb dX3_get_5 rfl (lv_at hl 0 rfl) ?_
  refine lv_iload_n hx hb dX3_get_6 rfl (lv_at hl 1 rfl) ?_
  refine m_Vl (As := [.int kZ]) (wr := []) (ws2 := fun _ => [(yZ, .inr (3, [.ref akZ, .ref avZ, .ref awZ, .ref aoZ, .ref amZ, .ref lkZ, .ref lvZ, .ref luZ, .int (nI npZ), .int iwZ, .int imZ, .int ilZ, .int irZ, .int iuZ, .int iaZ, .int 0])), (akZ, .inl (I, 200, .inl fZ)), (avZ, .inl (I, 200, .inl gZ))]) ⟨hx, hb, hml, hown, hts⟩ hA hK hP hD hS hl.1 (c_X3_now l D I J H.size yZ akZ avZ awZ aoZ amZ lkZ lvZ luZ npZ iwZ imZ ilZ irZ iuZ iaZ 0 fZ gZ kZ (by omega)) (cwV 1 hts gX3_get_X3_now rfl rfl rfl (by decide +kernel) ⟨Nat.le_of_ble_eq_true rfl, Nat.le_of_ble_eq_true rfl⟩) [0, 1, 2] [] [0, 1, 2] 0 3 rfl rfl rfl rfl rfl (by decide) (by decide) (by decide) (by decide) (fun _ => rfl) rfl rfl (Nat.le_of_ble_eq_true rfl) dX3_get_7 ⟨(by exact Nat.le_of_ble_eq_true rfl), (by exact Nat.le_of_ble_eq_true rfl)⟩ (fun r_7 u_7 H locs hw_7 hP hD hS => ?_)
  try dsimp only at hw_7
  have hP : va_P D vwCl [(yZ, .inr (3, [.ref akZ, .ref avZ, .ref awZ, .ref aoZ, .ref amZ, .ref lkZ, .ref lvZ, .ref luZ, .int (nI npZ), .int iwZ, .int imZ, .int ilZ, .int irZ, .int iuZ, .int iaZ, .int 0])), (akZ, .inl (I, 200, .inl fZ)), (avZ, .inl (I, 200, .inl gZ))] H := hP
  have hD : va_D A [(yZ, .inr (3, [.ref akZ, .ref avZ, .ref awZ, .ref aoZ, .ref amZ, .ref lkZ, .ref lvZ, .ref luZ, .int (nI npZ), .int iwZ, .int imZ, .int ilZ, .int irZ, .int iuZ, .int iaZ, .int 0])), (akZ, .inl (I, 200, .inl fZ)), (avZ, .inl (I, 200, .inl gZ))] := hD
  subst hw_7
  refine m_lret () hx hb hr hlocks hP hD hS dX3_get_10 (by first | exact Nat.le_of_ble_eq_true rfl | omega) (by first | exact Nat.le_of_ble_eq_true rfl | omega) ?_
  rfl

set_option maxHeartbeats 4000000 in
set_option maxRecDepth 100000 in
theorem c_X3_getOrDefault (l : Launch) (D : va_G) (I J : ClassId) (sz : Nat) (yZ : Nat) (akZ : Nat) (avZ : Nat) (awZ : Nat) (aoZ : Nat) (amZ : Nat) (lkZ : Nat) (lvZ : Nat) (luZ : Nat) (npZ : Nat) (iwZ : Int32) (imZ : Int32) (ilZ : Int32) (irZ : Int32) (iuZ : Int32) (iaZ : Int32) (icZ : Int32) (fZ : Nat → Int32) (gZ : Nat → Int32) (kZ : Int32) (otherZ : Int32) (hnp : npZ ≤ 200) : mCi l yX3_getOrDefault wsX3_getOrDefault 3 66 0 0 D I J [.ref yZ, .int kZ, .int otherZ] [(yZ, .inr (3, [.ref akZ, .ref avZ, .ref awZ, .ref aoZ, .ref amZ, .ref lkZ, .ref lvZ, .ref luZ, .int (nI npZ), .int iwZ, .int imZ, .int ilZ, .int irZ, .int iuZ, .int iaZ, .int icZ])), (akZ, .inl (I, 200, .inl fZ)), (avZ, .inl (I, 200, .inl gZ))] sz (fun (x : Int32) (u : Unit) => x = (orO gZ otherZ (rL fZ kZ npZ))) (fun (u : Unit) => [(yZ, .inr (3, [.ref akZ, .ref avZ, .ref awZ, .ref aoZ, .ref amZ, .ref lkZ, .ref lvZ, .ref luZ, .int (nI npZ), .int iwZ, .int imZ, .int ilZ, .int irZ, .int iuZ, .int iaZ, .int 0])), (akZ, .inl (I, 200, .inl fZ)), (avZ, .inl (I, 200, .inl gZ))]) := by
  refine m_ofi (cc := cX3_getOrDefault) (maxL := 3) (ret := (some .int)) (by decide) rfl (Nat.le_of_ble_eq_true rfl) ?_
  intro p e s m args below meth c A ls hx hb hr hlocks hml hts hown hin hK hP hD hA hS hl
  have hl : lv_has ls 3 [(0, .ref yZ), (1, .int kZ), (2, .int otherZ)] := hl
  have hP : va_P D vwCl [(yZ, .inr (3, [.ref akZ, .ref avZ, .ref awZ, .ref aoZ, .ref amZ, .ref lkZ, .ref lvZ, .ref luZ, .int (nI npZ), .int iwZ, .int imZ, .int ilZ, .int irZ, .int iuZ, .int iaZ, .int icZ])), (akZ, .inl (I, 200, .inl fZ)), (avZ, .inl (I, 200, .inl gZ))] s.heap := hP
  have hD : va_D A [(yZ, .inr (3, [.ref akZ, .ref avZ, .ref awZ, .ref aoZ, .ref amZ, .ref lkZ, .ref lvZ, .ref luZ, .int (nI npZ), .int iwZ, .int imZ, .int ilZ, .int irZ, .int iuZ, .int iaZ, .int icZ])), (akZ, .inl (I, 200, .inl fZ)), (avZ, .inl (I, 200, .inl gZ))] := hD
  refine lv_aload_n hx hb dX3_getOrDefault_0 rfl (lv_at hl 0 rfl) ?_
  refine lv_iconst (v := 0) hx hb dX3_getOrDefault_1 (by decide) ?_
  refine va_put (D := D) (ci := 3) (v := .int 0) (ty := .int) (C := RX3) (T := TX3) (N := 16) hx hb hts (fun _ h => List.mem_cons_of_mem _ (List.mem_append_right _ h)) tyX3 tyX3_ok nmX3 hown hK hP hD hS 0 rfl rfl 15 (by decide) (hts (.fieldLink RX3 38 "MapsByUseModel" "code" "I") (List.mem_of_getElem? (i := 1) (by decide +kernel))) (fun _ h9 => h9) rfl (by decide +kernel) rfl rfl (Nat.le_of_ble_eq_true rfl) dX3_getOrDefault_2 (fun H locs hP hD hS => ?_)
  have hP : va_P D vwCl [(yZ, .inr (3, [.ref akZ, .ref avZ, .ref awZ, .ref aoZ, .ref amZ, .ref lkZ, .ref lvZ, .ref luZ, .int (nI npZ), .int iwZ, .int imZ, .int ilZ, .int irZ, .int iuZ, .int iaZ, .int 0])), (akZ, .inl (I, 200, .inl fZ)), (avZ, .inl (I, 200, .inl gZ))] H := hP
  have hD : va_D A [(yZ, .inr (3, [.ref akZ, .ref avZ, .ref awZ, .ref aoZ, .ref amZ, .ref lkZ, .ref lvZ, .ref luZ, .int (nI npZ), .int iwZ, .int imZ, .int ilZ, .int irZ, .int iuZ, .int iaZ, .int 0])), (akZ, .inl (I, 200, .inl fZ)), (avZ, .inl (I, 200, .inl gZ))] := hD
  refine lv_aload_n hx hb dX3_getOrDefault_5 rfl (lv_at hl 0 rfl) ?_
  refine lv_iload_n hx hb dX3_getOrDefault_6 rfl (lv_at hl 1 rfl) ?_
  refine m_Vl (As := [.int kZ]) (wr := []) (ws2 := fun _ => [(yZ, .inr (3, [.ref akZ, .ref avZ, .ref awZ, .ref aoZ, .ref amZ, .ref lkZ, .ref lvZ, .ref luZ, .int (nI npZ), .int iwZ, .int imZ, .int ilZ, .int irZ, .int iuZ, .int iaZ, .int 0])), (akZ, .inl (I, 200, .inl fZ)), (avZ, .inl (I, 200, .inl gZ))]) ⟨hx, hb, hml, hown, hts⟩ hA hK hP hD hS hl.1 (c_X3_now l D I J H.size yZ akZ avZ awZ aoZ amZ lkZ lvZ luZ npZ iwZ imZ ilZ irZ iuZ iaZ 0 fZ gZ kZ (by omega)) (cwV 1 hts gX3_getOrDefault_X3_now rfl rfl rfl (by decide +kernel) ⟨Nat.le_of_ble_eq_true rfl, Nat.le_of_ble_eq_true rfl⟩) [0, 1, 2] [] [0, 1, 2] 0 3 rfl rfl rfl rfl rfl (by decide) (by decide) (by decide) (by decide) (fun _ => rfl) rfl rfl (Nat.le_of_ble_eq_true rfl) dX3_getOrDefault_7 ⟨(by exact Nat.le_of_ble_eq_true rfl), (by exact Nat.le_of_ble_eq_true rfl)⟩ (fun r_7 u_7 H locs hw_7 hP hD hS => ?_)
  try dsimp only at hw_7
  have hP : va_P D vwCl [(yZ, .inr (3, [.ref akZ, .ref avZ, .ref awZ, .ref aoZ, .ref amZ, .ref lkZ, .ref lvZ, .ref luZ, .int (nI npZ), .int iwZ, .int imZ, .int ilZ, .int irZ, .int iuZ, .int iaZ, .int 0])), (akZ, .inl (I, 200, .inl fZ)), (avZ, .inl (I, 200, .inl gZ))] H := hP
  have hD : va_D A [(yZ, .inr (3, [.ref akZ, .ref avZ, .ref awZ, .ref aoZ, .ref amZ, .ref lkZ, .ref lvZ, .ref luZ, .int (nI npZ), .int iwZ, .int imZ, .int ilZ, .int irZ, .int iuZ, .int iaZ, .int 0])), (akZ, .inl (I, 200, .inl fZ)), (avZ, .inl (I, 200, .inl gZ))] := hD
  subst hw_7
  refine lv_ldc2 (v := 4294967296) hx hb hown (hts (.constantLong RX3 52 (4294967296)) (List.mem_of_getElem? (i := 2) (by decide +kernel))) dX3_getOrDefault_10 ?_
  refine W.lcmp hx hb dX3_getOrDefault_13 ?_
  refine lv_if_ne (tgt := 21) hx hb dX3_getOrDefault_14 (by decide) (fun c_14 => ?_) (fun c_14 => ?_)
  · --14T
    obtain ⟨jZ, ho⟩ := oN_some (fun q9 => c_14 (lg_cmp_0.mpr q9))
    refine lv_aload_n hx hb dX3_getOrDefault_21 rfl (lv_at hl 0 rfl) ?_
    refine lv_iload_n hx hb dX3_getOrDefault_22 rfl (lv_at hl 1 rfl) ?_
    refine m_Vl (As := [.int kZ]) (wr := []) (ws2 := fun _ => [(yZ, .inr (3, [.ref akZ, .ref avZ, .ref awZ, .ref aoZ, .ref amZ, .ref lkZ, .ref lvZ, .ref luZ, .int (nI npZ), .int iwZ, .int imZ, .int ilZ, .int irZ, .int iuZ, .int iaZ, .int 0])), (akZ, .inl (I, 200, .inl fZ)), (avZ, .inl (I, 200, .inl gZ))]) ⟨hx, hb, hml, hown, hts⟩ hA hK hP hD hS hl.1 (c_X3_now l D I J H.size yZ akZ avZ awZ aoZ amZ lkZ lvZ luZ npZ iwZ imZ ilZ irZ iuZ iaZ 0 fZ gZ kZ (by omega)) (cwV 1 hts gX3_getOrDefault_X3_now rfl rfl rfl (by decide +kernel) ⟨Nat.le_of_ble_eq_true rfl, Nat.le_of_ble_eq_true rfl⟩) [0, 1, 2] [] [0, 1, 2] 0 3 rfl rfl rfl rfl rfl (by decide) (by decide) (by decide) (by decide) (fun _ => rfl) rfl rfl (Nat.le_of_ble_eq_true rfl) dX3_getOrDefault_23 ⟨(by exact Nat.le_of_ble_eq_true rfl), (by exact Nat.le_of_ble_eq_true rfl)⟩ (fun r_23 u_23 H locs hw_23 hP hD hS => ?_)
    try dsimp only at hw_23
    have hP : va_P D vwCl [(yZ, .inr (3, [.ref akZ, .ref avZ, .ref awZ, .ref aoZ, .ref amZ, .ref lkZ, .ref lvZ, .ref luZ, .int (nI npZ), .int iwZ, .int imZ, .int ilZ, .int irZ, .int iuZ, .int iaZ, .int 0])), (akZ, .inl (I, 200, .inl fZ)), (avZ, .inl (I, 200, .inl gZ))] H := hP
    have hD : va_D A [(yZ, .inr (3, [.ref akZ, .ref avZ, .ref awZ, .ref aoZ, .ref amZ, .ref lkZ, .ref lvZ, .ref luZ, .int (nI npZ), .int iwZ, .int imZ, .int ilZ, .int irZ, .int iuZ, .int iaZ, .int 0])), (akZ, .inl (I, 200, .inl fZ)), (avZ, .inl (I, 200, .inl gZ))] := hD
    subst hw_23
    refine lv_l2i (v := (oN gZ (rL fZ kZ npZ)).toInt32) hx hb dX3_getOrDefault_26 rfl ?_
    refine m_iret () hx hb hr hlocks hP hD hS dX3_getOrDefault_27 (by first | exact Nat.le_of_ble_eq_true rfl | omega) (by first | exact Nat.le_of_ble_eq_true rfl | omega) ?_
    rw [ho]; exact Int32.toInt32_toInt64 _
  · --14F
    have ho : rL fZ kZ npZ = none := oN_none (lg_cmp_0.mp c_14)
    refine lv_iload_n hx hb dX3_getOrDefault_17 rfl (lv_at hl 2 rfl) ?_
    refine lv_goto (tgt := 27) hx hb dX3_getOrDefault_18 (by decide) ?_
    refine m_iret () hx hb hr hlocks hP hD hS dX3_getOrDefault_27 (by first | exact Nat.le_of_ble_eq_true rfl | omega) (by first | exact Nat.le_of_ble_eq_true rfl | omega) ?_
    rw [ho]; rfl

set_option maxHeartbeats 4000000 in
set_option maxRecDepth 100000 in
theorem c_X3_replace (l : Launch) (D : va_G) (I J : ClassId) (sz : Nat) (yZ : Nat) (akZ : Nat) (avZ : Nat) (awZ : Nat) (aoZ : Nat) (amZ : Nat) (lkZ : Nat) (lvZ : Nat) (luZ : Nat) (npZ : Nat) (iwZ : Int32) (imZ : Int32) (ilZ : Int32) (irZ : Int32) (iuZ : Int32) (iaZ : Int32) (icZ : Int32) (fZ : Nat → Int32) (gZ : Nat → Int32) (kZ : Int32) (vZ : Int32) (hnp : npZ ≤ 200) : mCl l yX3_replace wsX3_replace 3 68 0 0 D I J [.ref yZ, .int kZ, .int vZ] [(yZ, .inr (3, [.ref akZ, .ref avZ, .ref awZ, .ref aoZ, .ref amZ, .ref lkZ, .ref lvZ, .ref luZ, .int (nI npZ), .int iwZ, .int imZ, .int ilZ, .int irZ, .int iuZ, .int iaZ, .int icZ])), (akZ, .inl (I, 200, .inl fZ)), (avZ, .inl (I, 200, .inl gZ))] sz (fun (x : Int64) (u : Unit) => x = (oN gZ (rL fZ kZ npZ))) (fun (u : Unit) => [(yZ, .inr (3, [.ref akZ, .ref avZ, .ref awZ, .ref aoZ, .ref amZ, .ref lkZ, .ref lvZ, .ref luZ, .int (nI npZ), .int iwZ, .int imZ, .int ilZ, .int irZ, .int iuZ, .int iaZ, .int 0])), (akZ, .inl (I, 200, .inl fZ)), (avZ, .inl (I, 200, .inl (setO gZ vZ (rL fZ kZ npZ))))]) := by
  refine m_ofl (cc := cX3_replace) (maxL := 5) (ret := (some .long)) (by decide) rfl (Nat.le_of_ble_eq_true rfl) ?_
  intro p e s m args below meth c A ls hx hb hr hlocks hml hts hown hin hK hP hD hA hS hl
  have hl : lv_has ls 5 [(0, .ref yZ), (1, .int kZ), (2, .int vZ)] := hl
  have hP : va_P D vwCl [(yZ, .inr (3, [.ref akZ, .ref avZ, .ref awZ, .ref aoZ, .ref amZ, .ref lkZ, .ref lvZ, .ref luZ, .int (nI npZ), .int iwZ, .int imZ, .int ilZ, .int irZ, .int iuZ, .int iaZ, .int icZ])), (akZ, .inl (I, 200, .inl fZ)), (avZ, .inl (I, 200, .inl gZ))] s.heap := hP
  have hD : va_D A [(yZ, .inr (3, [.ref akZ, .ref avZ, .ref awZ, .ref aoZ, .ref amZ, .ref lkZ, .ref lvZ, .ref luZ, .int (nI npZ), .int iwZ, .int imZ, .int ilZ, .int irZ, .int iuZ, .int iaZ, .int icZ])), (akZ, .inl (I, 200, .inl fZ)), (avZ, .inl (I, 200, .inl gZ))] := hD
  refine lv_aload_n hx hb dX3_replace_0 rfl (lv_at hl 0 rfl) ?_
  refine lv_iconst (v := 0) hx hb dX3_replace_1 (by decide) ?_
  refine va_put (D := D) (ci := 3) (v := .int 0) (ty := .int) (C := RX3) (T := TX3) (N := 16) hx hb hts (fun _ h => List.mem_cons_of_mem _ (List.mem_append_right _ h)) tyX3 tyX3_ok nmX3 hown hK hP hD hS 0 rfl rfl 15 (by decide) (hts (.fieldLink RX3 38 "MapsByUseModel" "code" "I") (List.mem_of_getElem? (i := 1) (by decide +kernel))) (fun _ h9 => h9) rfl (by decide +kernel) rfl rfl (Nat.le_of_ble_eq_true rfl) dX3_replace_2 (fun H locs hP hD hS => ?_)
  have hP : va_P D vwCl [(yZ, .inr (3, [.ref akZ, .ref avZ, .ref awZ, .ref aoZ, .ref amZ, .ref lkZ, .ref lvZ, .ref luZ, .int (nI npZ), .int iwZ, .int imZ, .int ilZ, .int irZ, .int iuZ, .int iaZ, .int 0])), (akZ, .inl (I, 200, .inl fZ)), (avZ, .inl (I, 200, .inl gZ))] H := hP
  have hD : va_D A [(yZ, .inr (3, [.ref akZ, .ref avZ, .ref awZ, .ref aoZ, .ref amZ, .ref lkZ, .ref lvZ, .ref luZ, .int (nI npZ), .int iwZ, .int imZ, .int ilZ, .int irZ, .int iuZ, .int iaZ, .int 0])), (akZ, .inl (I, 200, .inl fZ)), (avZ, .inl (I, 200, .inl gZ))] := hD
  refine lv_aload_n hx hb dX3_replace_5 rfl (lv_at hl 0 rfl) ?_
  refine lv_iload_n hx hb dX3_replace_6 rfl (lv_at hl 1 rfl) ?_
  refine m_Vl (As := [.int kZ]) (wr := []) (ws2 := fun _ => [(yZ, .inr (3, [.ref akZ, .ref avZ, .ref awZ, .ref aoZ, .ref amZ, .ref lkZ, .ref lvZ, .ref luZ, .int (nI npZ), .int iwZ, .int imZ, .int ilZ, .int irZ, .int iuZ, .int iaZ, .int 0])), (akZ, .inl (I, 200, .inl fZ)), (avZ, .inl (I, 200, .inl gZ))]) ⟨hx, hb, hml, hown, hts⟩ hA hK hP hD hS hl.1 (c_X3_now l D I J H.size yZ akZ avZ awZ aoZ amZ lkZ lvZ luZ npZ iwZ imZ ilZ irZ iuZ iaZ 0 fZ gZ kZ (by omega)) (cwV 1 hts gX3_replace_X3_now rfl rfl rfl (by decide +kernel) ⟨Nat.le_of_ble_eq_true rfl, Nat.le_of_ble_eq_true rfl⟩) [0, 1, 2] [] [0, 1, 2] 0 3 rfl rfl rfl rfl rfl (by decide) (by decide) (by decide) (by decide) (fun _ => rfl) rfl rfl (Nat.le_of_ble_eq_true rfl) dX3_replace_7 ⟨(by exact Nat.le_of_ble_eq_true rfl), (by exact Nat.le_of_ble_eq_true rfl)⟩ (fun r_7 u_7 H locs hw_7 hP hD hS => ?_)
  try dsimp only at hw_7
  have hP : va_P D vwCl [(yZ, .inr (3, [.ref akZ, .ref avZ, .ref awZ, .ref aoZ, .ref amZ, .ref lkZ, .ref lvZ, .ref luZ, .int (nI npZ), .int iwZ, .int imZ, .int ilZ, .int irZ, .int iuZ, .int iaZ, .int 0])), (akZ, .inl (I, 200, .inl fZ)), (avZ, .inl (I, 200, .inl gZ))] H := hP
  have hD : va_D A [(yZ, .inr (3, [.ref akZ, .ref avZ, .ref awZ, .ref aoZ, .ref amZ, .ref lkZ, .ref lvZ, .ref luZ, .int (nI npZ), .int iwZ, .int imZ, .int ilZ, .int irZ, .int iuZ, .int iaZ, .int 0])), (akZ, .inl (I, 200, .inl fZ)), (avZ, .inl (I, 200, .inl gZ))] := hD
  subst hw_7
  refine lv_lstore_n (lv' := [(3, .long (oN gZ (rL fZ kZ npZ))), (0, .ref yZ), (1, .int kZ), (2, .int vZ)]) hx hb dX3_replace_10 rfl hl (by decide) rfl (fun ls hl => ?_)
  refine lv_lload_n hx hb dX3_replace_11 rfl (lv_at hl 0 rfl) ?_
  refine lv_ldc2 (v := 4294967296) hx hb hown (hts (.constantLong RX3 52 (4294967296)) (List.mem_of_getElem? (i := 2) (by decide +kernel))) dX3_replace_12 ?_
  refine W.lcmp hx hb dX3_replace_15 ?_
  refine lv_if_eq (tgt := 25) hx hb dX3_replace_16 (by decide) (fun c_16 => ?_) (fun c_16 => ?_)
  · --16T
    have ho : rL fZ kZ npZ = none := oN_none (lg_cmp_0.mp c_16)
    refine lv_lload_n hx hb dX3_replace_25 rfl (lv_at hl 0 rfl) ?_
    have hEq : [(yZ, .inr (3, [.ref akZ, .ref avZ, .ref awZ, .ref aoZ, .ref amZ, .ref lkZ, .ref lvZ, .ref luZ, .int (nI npZ), .int iwZ, .int imZ, .int ilZ, .int irZ, .int iuZ, .int iaZ, .int 0])), (akZ, .inl (I, 200, .inl fZ)), (avZ, .inl (I, 200, .inl gZ))] = ([(yZ, .inr (3, [.ref akZ, .ref avZ, .ref awZ, .ref aoZ, .ref amZ, .ref lkZ, .ref lvZ, .ref luZ, .int (nI npZ), .int iwZ, .int imZ, .int ilZ, .int irZ, .int iuZ, .int iaZ, .int 0])), (akZ, .inl (I, 200, .inl fZ)), (avZ, .inl (I, 200, .inl (setO gZ vZ (rL fZ kZ npZ))))] : va_W) := (by rw [ho]; rfl)
    rw [hEq] at hP hD
    refine m_lret () hx hb hr hlocks hP hD hS dX3_replace_26 (by first | exact Nat.le_of_ble_eq_true rfl | omega) (by first | exact Nat.le_of_ble_eq_true rfl | omega) ?_
    rfl
  · --16F
    obtain ⟨jZ, ho⟩ := oN_some (fun q9 => c_16 (lg_cmp_0.mpr q9))
    refine lv_aload_n hx hb dX3_replace_19 rfl (lv_at hl 1 rfl) ?_
    refine lv_iload_n hx hb dX3_replace_20 rfl (lv_at hl 2 rfl) ?_
    refine lv_iload_n hx hb dX3_replace_21 rfl (lv_at hl 3 rfl) ?_
    refine m_Vv (As := [.int kZ, .int vZ]) (wr := []) (ws2 := fun _ => [(yZ, .inr (3, [.ref akZ, .ref avZ, .ref awZ, .ref aoZ, .ref amZ, .ref lkZ, .ref lvZ, .ref luZ, .int (nI (insN npZ (rL fZ kZ npZ))), .int iwZ, .int imZ, .int ilZ, .int irZ, .int iuZ, .int iaZ, .int 0])), (akZ, .inl (I, 200, .inl (insF fZ npZ kZ (rL fZ kZ npZ)))), (avZ, .inl (I, 200, .inl (insG gZ npZ vZ (rL fZ kZ npZ))))]) ⟨hx, hb, hml, hown, hts⟩ hA hK hP hD hS hl.1 (c_X3_lays l D I J H.size yZ akZ avZ awZ aoZ amZ lkZ lvZ luZ npZ iwZ imZ ilZ irZ iuZ iaZ 0 fZ gZ kZ vZ (by rw [ho]; intro q9; cases q9) (by omega)) (cwV 2 hts gX3_replace_X3_lays rfl rfl rfl (by decide +kernel) ⟨Nat.le_of_ble_eq_true rfl, Nat.le_of_ble_eq_true rfl⟩) [0, 1, 2] [] [0, 1, 2] 0 3 rfl rfl rfl rfl rfl (by decide) (by decide) (by decide) (by decide) (fun _ => rfl) rfl rfl (Nat.le_of_ble_eq_true rfl) dX3_replace_22 ⟨(by exact Nat.le_of_ble_eq_true rfl), (by exact Nat.le_of_ble_eq_true rfl)⟩ (fun u_22 H locs hw_22 hP hD hS => ?_)
    clear hw_22
    have hP : va_P D vwCl [(yZ, .inr (3, [.ref akZ, .ref avZ, .ref awZ, .ref aoZ, .ref amZ, .ref lkZ, .ref lvZ, .ref luZ, .int (nI (insN npZ (rL fZ kZ npZ))), .int iwZ, .int imZ, .int ilZ, .int irZ, .int iuZ, .int iaZ, .int 0])), (akZ, .inl (I, 200, .inl (insF fZ npZ kZ (rL fZ kZ npZ)))), (avZ, .inl (I, 200, .inl (insG gZ npZ vZ (rL fZ kZ npZ))))] H := hP
    have hD : va_D A [(yZ, .inr (3, [.ref akZ, .ref avZ, .ref awZ, .ref aoZ, .ref amZ, .ref lkZ, .ref lvZ, .ref luZ, .int (nI (insN npZ (rL fZ kZ npZ))), .int iwZ, .int imZ, .int ilZ, .int irZ, .int iuZ, .int iaZ, .int 0])), (akZ, .inl (I, 200, .inl (insF fZ npZ kZ (rL fZ kZ npZ)))), (avZ, .inl (I, 200, .inl (insG gZ npZ vZ (rL fZ kZ npZ))))] := hD
    refine lv_lload_n hx hb dX3_replace_25 rfl (lv_at hl 0 rfl) ?_
    have hEq : [(yZ, .inr (3, [.ref akZ, .ref avZ, .ref awZ, .ref aoZ, .ref amZ, .ref lkZ, .ref lvZ, .ref luZ, .int (nI (insN npZ (rL fZ kZ npZ))), .int iwZ, .int imZ, .int ilZ, .int irZ, .int iuZ, .int iaZ, .int 0])), (akZ, .inl (I, 200, .inl (insF fZ npZ kZ (rL fZ kZ npZ)))), (avZ, .inl (I, 200, .inl (insG gZ npZ vZ (rL fZ kZ npZ))))] = ([(yZ, .inr (3, [.ref akZ, .ref avZ, .ref awZ, .ref aoZ, .ref amZ, .ref lkZ, .ref lvZ, .ref luZ, .int (nI npZ), .int iwZ, .int imZ, .int ilZ, .int irZ, .int iuZ, .int iaZ, .int 0])), (akZ, .inl (I, 200, .inl fZ)), (avZ, .inl (I, 200, .inl (setO gZ vZ (rL fZ kZ npZ))))] : va_W) := (by rw [ho]; rfl)
    rw [hEq] at hP hD
    refine m_lret () hx hb hr hlocks hP hD hS dX3_replace_26 (by first | exact Nat.le_of_ble_eq_true rfl | omega) (by first | exact Nat.le_of_ble_eq_true rfl | omega) ?_
    rfl

set_option maxHeartbeats 4000000 in
set_option maxRecDepth 100000 in
theorem c_X3_replaceTold (l : Launch) (D : va_G) (I J : ClassId) (sz : Nat) (yZ : Nat) (akZ : Nat) (avZ : Nat) (awZ : Nat) (aoZ : Nat) (amZ : Nat) (lkZ : Nat) (lvZ : Nat) (luZ : Nat) (npZ : Nat) (iwZ : Int32) (imZ : Int32) (ilZ : Int32) (irZ : Int32) (iuZ : Int32) (iaZ : Int32) (icZ : Int32) (fZ : Nat → Int32) (gZ : Nat → Int32) (kZ : Int32) (toldZ : Int32) (vZ : Int32) (hnp : npZ ≤ 200) : mCi l yX3_replaceTold wsX3_replaceTold 3 68 0 0 D I J [.ref yZ, .int kZ, .int toldZ, .int vZ] [(yZ, .inr (3, [.ref akZ, .ref avZ, .ref awZ, .ref aoZ, .ref amZ, .ref lkZ, .ref lvZ, .ref luZ, .int (nI npZ), .int iwZ, .int imZ, .int ilZ, .int irZ, .int iuZ, .int iaZ, .int icZ])), (akZ, .inl (I, 200, .inl fZ)), (avZ, .inl (I, 200, .inl gZ))] sz (fun (x : Int32) (u : Unit) => x = (bI (decide (oN gZ (rL fZ kZ npZ) = toldZ.toInt64)))) (fun (u : Unit) => [(yZ, .inr (3, [.ref akZ, .ref avZ, .ref awZ, .ref aoZ, .ref amZ, .ref lkZ, .ref lvZ, .ref luZ, .int (nI npZ), .int iwZ, .int imZ, .int ilZ, .int irZ, .int iuZ, .int iaZ, .int 0])), (akZ, .inl (I, 200, .inl fZ)), (avZ, .inl (I, 200, .inl (if (decide (oN gZ (rL fZ kZ npZ) = toldZ.toInt64)) then setO gZ vZ (rL fZ kZ npZ) else gZ)))]) := by
  refine m_ofi (cc := cX3_replaceTold) (maxL := 5) (ret := (some .boolean)) (by decide) rfl (Nat.le_of_ble_eq_true rfl) ?_
  intro p e s m args below meth c A ls hx hb hr hlocks hml hts hown hin hK hP hD hA hS hl
  have hl : lv_has ls 5 [(0, .ref yZ), (1, .int kZ), (2, .int toldZ), (3, .int vZ)] := hl
  have hP : va_P D vwCl [(yZ, .inr (3, [.ref akZ, .ref avZ, .ref awZ, .ref aoZ, .ref amZ, .ref lkZ, .ref lvZ, .ref luZ, .int (nI npZ), .int iwZ, .int imZ, .int ilZ, .int irZ, .int iuZ, .int iaZ, .int icZ])), (akZ, .inl (I, 200, .inl fZ)), (avZ, .inl (I, 200, .inl gZ))] s.heap := hP
  have hD : va_D A [(yZ, .inr (3, [.ref akZ, .ref avZ, .ref awZ, .ref aoZ, .ref amZ, .ref lkZ, .ref lvZ, .ref luZ, .int (nI npZ), .int iwZ, .int imZ, .int ilZ, .int irZ, .int iuZ, .int iaZ, .int icZ])), (akZ, .inl (I, 200, .inl fZ)), (avZ, .inl (I, 200, .inl gZ))] := hD
  refine lv_aload_n hx hb dX3_replaceTold_0 rfl (lv_at hl 0 rfl) ?_
  refine lv_iconst (v := 0) hx hb dX3_replaceTold_1 (by decide) ?_
  refine va_put (D := D) (ci := 3) (v := .int 0) (ty := .int) (C := RX3) (T := TX3) (N := 16) hx hb hts (fun _ h => List.mem_cons_of_mem _ (List.mem_append_right _ h)) tyX3 tyX3_ok nmX3 hown hK hP hD hS 0 rfl rfl 15 (by decide) (hts (.fieldLink RX3 38 "MapsByUseModel" "code" "I") (List.mem_of_getElem? (i := 1) (by decide +kernel))) (fun _ h9 => h9) rfl (by decide +kernel) rfl rfl (Nat.le_of_ble_eq_true rfl) dX3_replaceTold_2 (fun H locs hP hD hS => ?_)
  have hP : va_P D vwCl [(yZ, .inr (3, [.ref akZ, .ref avZ, .ref awZ, .ref aoZ, .ref amZ, .ref lkZ, .ref lvZ, .ref luZ, .int (nI npZ), .int iwZ, .int imZ, .int ilZ, .int irZ, .int iuZ, .int iaZ, .int 0])), (akZ, .inl (I, 200, .inl fZ)), (avZ, .inl (I, 200, .inl gZ))] H := hP
  have hD : va_D A [(yZ, .inr (3, [.ref akZ, .ref avZ, .ref awZ, .ref aoZ, .ref amZ, .ref lkZ, .ref lvZ, .ref luZ, .int (nI npZ), .int iwZ, .int imZ, .int ilZ, .int irZ, .int iuZ, .int iaZ, .int 0])), (akZ, .inl (I, 200, .inl fZ)), (avZ, .inl (I, 200, .inl gZ))] := hD
  refine lv_aload_n hx hb dX3_replaceTold_5 rfl (lv_at hl 0 rfl) ?_
  refine lv_iload_n hx hb dX3_replaceTold_6 rfl (lv_at hl 1 rfl) ?_
  refine m_Vl (As := [.int kZ]) (wr := []) (ws2 := fun _ => [(yZ, .inr (3, [.ref akZ, .ref avZ, .ref awZ, .ref aoZ, .ref amZ, .ref lkZ, .ref lvZ, .ref luZ, .int (nI npZ), .int iwZ, .int imZ, .int ilZ, .int irZ, .int iuZ, .int iaZ, .int 0])), (akZ, .inl (I, 200, .inl fZ)), (avZ, .inl (I, 200, .inl gZ))]) ⟨hx, hb, hml, hown, hts⟩ hA hK hP hD hS hl.1 (c_X3_now l D I J H.size yZ akZ avZ awZ aoZ amZ lkZ lvZ luZ npZ iwZ imZ ilZ irZ iuZ iaZ 0 fZ gZ kZ (by omega)) (cwV 1 hts gX3_replaceTold_X3_now rfl rfl rfl (by decide +kernel) ⟨Nat.le_of_ble_eq_true rfl, Nat.le_of_ble_eq_true rfl⟩) [0, 1, 2] [] [0, 1, 2] 0 3 rfl rfl rfl rfl rfl (by decide) (by decide) (by decide) (by decide) (fun _ => rfl) rfl rfl (Nat.le_of_ble_eq_true rfl) dX3_replaceTold_7 ⟨(by exact Nat.le_of_ble_eq_true rfl), (by exact Nat.le_of_ble_eq_true rfl)⟩ (fun r_7 u_7 H locs hw_7 hP hD hS => ?_)
  try dsimp only at hw_7
  have hP : va_P D vwCl [(yZ, .inr (3, [.ref akZ, .ref avZ, .ref awZ, .ref aoZ, .ref amZ, .ref lkZ, .ref lvZ, .ref luZ, .int (nI npZ), .int iwZ, .int imZ, .int ilZ, .int irZ, .int iuZ, .int iaZ, .int 0])), (akZ, .inl (I, 200, .inl fZ)), (avZ, .inl (I, 200, .inl gZ))] H := hP
  have hD : va_D A [(yZ, .inr (3, [.ref akZ, .ref avZ, .ref awZ, .ref aoZ, .ref amZ, .ref lkZ, .ref lvZ, .ref luZ, .int (nI npZ), .int iwZ, .int imZ, .int ilZ, .int irZ, .int iuZ, .int iaZ, .int 0])), (akZ, .inl (I, 200, .inl fZ)), (avZ, .inl (I, 200, .inl gZ))] := hD
  subst hw_7
  refine lv_iload_n hx hb dX3_replaceTold_10 rfl (lv_at hl 2 rfl) ?_
  refine lv_i2l (v := (toldZ).toInt64) hx hb dX3_replaceTold_11 rfl ?_
  refine W.lcmp hx hb dX3_replaceTold_12 ?_
  refine lv_if_ne (tgt := 20) hx hb dX3_replaceTold_13 (by decide) (fun c_13 => ?_) (fun c_13 => ?_)
  · --13T
    have hq : (decide (oN gZ (rL fZ kZ npZ) = toldZ.toInt64)) = false := decide_eq_false (fun h => c_13 (lg_cmp_0.mpr h))
    refine lv_iconst (v := 0) hx hb dX3_replaceTold_20 (by decide) ?_
    refine lv_istore (lv' := [(4, .int 0), (0, .ref yZ), (1, .int kZ), (2, .int toldZ), (3, .int vZ)]) hx hb dX3_replaceTold_21 hl (by decide) rfl (fun ls hl => ?_)
    refine lv_iload hx hb dX3_replaceTold_23 (lv_at hl 0 rfl) ?_
    refine lv_if_eq (tgt := 34) hx hb dX3_replaceTold_25 (by decide) (fun c_25 => ?_) (fun c_25 => ?_)
    · --13T25T
      refine lv_iload hx hb dX3_replaceTold_34 (lv_at hl 0 rfl) ?_
      have hEq : [(yZ, .inr (3, [.ref akZ, .ref avZ, .ref awZ, .ref aoZ, .ref amZ, .ref lkZ, .ref lvZ, .ref luZ, .int (nI npZ), .int iwZ, .int imZ, .int ilZ, .int irZ, .int iuZ, .int iaZ, .int 0])), (akZ, .inl (I, 200, .inl fZ)), (avZ, .inl (I, 200, .inl gZ))] = ([(yZ, .inr (3, [.ref akZ, .ref avZ, .ref awZ, .ref aoZ, .ref amZ, .ref lkZ, .ref lvZ, .ref luZ, .int (nI npZ), .int iwZ, .int imZ, .int ilZ, .int irZ, .int iuZ, .int iaZ, .int 0])), (akZ, .inl (I, 200, .inl fZ)), (avZ, .inl (I, 200, .inl (if (decide (oN gZ (rL fZ kZ npZ) = toldZ.toInt64)) then setO gZ vZ (rL fZ kZ npZ) else gZ)))] : va_W) := (by rw [hq]; rfl)
      rw [hEq] at hP hD
      refine m_zret () hx hb hr hlocks hP hD hS dX3_replaceTold_36 (by first | exact Nat.le_of_ble_eq_true rfl | omega) (by first | exact Nat.le_of_ble_eq_true rfl | omega) (by rfl) ?_
      rw [hq]; rfl
    · --13T25F
      exact absurd rfl c_25
  · --13F
    have hq : (decide (oN gZ (rL fZ kZ npZ) = toldZ.toInt64)) = true := decide_eq_true (lg_cmp_0.mp c_13)
    obtain ⟨jZ, ho⟩ := oN_told (lg_cmp_0.mp c_13)
    refine lv_iconst (v := 1) hx hb dX3_replaceTold_16 (by decide) ?_
    refine lv_goto (tgt := 21) hx hb dX3_replaceTold_17 (by decide) ?_
    refine lv_istore (lv' := [(4, .int 1), (0, .ref yZ), (1, .int kZ), (2, .int toldZ), (3, .int vZ)]) hx hb dX3_replaceTold_21 hl (by decide) rfl (fun ls hl => ?_)
    refine lv_iload hx hb dX3_replaceTold_23 (lv_at hl 0 rfl) ?_
    refine lv_if_eq (tgt := 34) hx hb dX3_replaceTold_25 (by decide) (fun c_25 => ?_) (fun c_25 => ?_)
    · --13F25T
      exact absurd c_25 (by decide)
    · --13F25F
      refine lv_aload_n hx hb dX3_replaceTold_28 rfl (lv_at hl 1 rfl) ?_
      refine lv_iload_n hx hb dX3_replaceTold_29 rfl (lv_at hl 2 rfl) ?_
      refine lv_iload_n hx hb dX3_replaceTold_30 rfl (lv_at hl 4 rfl) ?_
      refine m_Vv (As := [.int kZ, .int vZ]) (wr := []) (ws2 := fun _ => [(yZ, .inr (3, [.ref akZ, .ref avZ, .ref awZ, .ref aoZ, .ref amZ, .ref lkZ, .ref lvZ, .ref luZ, .int (nI (insN npZ (rL fZ kZ npZ))), .int iwZ, .int imZ, .int ilZ, .int irZ, .int iuZ, .int iaZ, .int 0])), (akZ, .inl (I, 200, .inl (insF fZ npZ kZ (rL fZ kZ npZ)))), (avZ, .inl (I, 200, .inl (insG gZ npZ vZ (rL fZ kZ npZ))))]) ⟨hx, hb, hml, hown, hts⟩ hA hK hP hD hS hl.1 (c_X3_lays l D I J H.size yZ akZ avZ awZ aoZ amZ lkZ lvZ luZ npZ iwZ imZ ilZ irZ iuZ iaZ 0 fZ gZ kZ vZ (by rw [ho]; intro q9; cases q9) (by omega)) (cwV 2 hts gX3_replaceTold_X3_lays rfl rfl rfl (by decide +kernel) ⟨Nat.le_of_ble_eq_true rfl, Nat.le_of_ble_eq_true rfl⟩) [0, 1, 2] [] [0, 1, 2] 0 3 rfl rfl rfl rfl rfl (by decide) (by decide) (by decide) (by decide) (fun _ => rfl) rfl rfl (Nat.le_of_ble_eq_true rfl) dX3_replaceTold_31 ⟨(by exact Nat.le_of_ble_eq_true rfl), (by exact Nat.le_of_ble_eq_true rfl)⟩ (fun u_31 H locs hw_31 hP hD hS => ?_)
      clear hw_31
      have hP : va_P D vwCl [(yZ, .inr (3, [.ref akZ, .ref avZ, .ref awZ, .ref aoZ, .ref amZ, .ref lkZ, .ref lvZ, .ref luZ, .int (nI (insN npZ (rL fZ kZ npZ))), .int iwZ, .int imZ, .int ilZ, .int irZ, .int iuZ, .int iaZ, .int 0])), (akZ, .inl (I, 200, .inl (insF fZ npZ kZ (rL fZ kZ npZ)))), (avZ, .inl (I, 200, .inl (insG gZ npZ vZ (rL fZ kZ npZ))))] H := hP
      have hD : va_D A [(yZ, .inr (3, [.ref akZ, .ref avZ, .ref awZ, .ref aoZ, .ref amZ, .ref lkZ, .ref lvZ, .ref luZ, .int (nI (insN npZ (rL fZ kZ npZ))), .int iwZ, .int imZ, .int ilZ, .int irZ, .int iuZ, .int iaZ, .int 0])), (akZ, .inl (I, 200, .inl (insF fZ npZ kZ (rL fZ kZ npZ)))), (avZ, .inl (I, 200, .inl (insG gZ npZ vZ (rL fZ kZ npZ))))] := hD
      refine lv_iload hx hb dX3_replaceTold_34 (lv_at hl 0 rfl) ?_
      have hEq : [(yZ, .inr (3, [.ref akZ, .ref avZ, .ref awZ, .ref aoZ, .ref amZ, .ref lkZ, .ref lvZ, .ref luZ, .int (nI (insN npZ (rL fZ kZ npZ))), .int iwZ, .int imZ, .int ilZ, .int irZ, .int iuZ, .int iaZ, .int 0])), (akZ, .inl (I, 200, .inl (insF fZ npZ kZ (rL fZ kZ npZ)))), (avZ, .inl (I, 200, .inl (insG gZ npZ vZ (rL fZ kZ npZ))))] = ([(yZ, .inr (3, [.ref akZ, .ref avZ, .ref awZ, .ref aoZ, .ref amZ, .ref lkZ, .ref lvZ, .ref luZ, .int (nI npZ), .int iwZ, .int imZ, .int ilZ, .int irZ, .int iuZ, .int iaZ, .int 0])), (akZ, .inl (I, 200, .inl fZ)), (avZ, .inl (I, 200, .inl (if (decide (oN gZ (rL fZ kZ npZ) = toldZ.toInt64)) then setO gZ vZ (rL fZ kZ npZ) else gZ)))] : va_W) := (by rw [hq, ho]; rfl)
      rw [hEq] at hP hD
      refine m_zret () hx hb hr hlocks hP hD hS dX3_replaceTold_36 (by first | exact Nat.le_of_ble_eq_true rfl | omega) (by first | exact Nat.le_of_ble_eq_true rfl | omega) (by rfl) ?_
      rw [hq]; rfl

set_option maxHeartbeats 4000000 in
set_option maxRecDepth 100000 in
theorem c_X3_remove (l : Launch) (D : va_G) (I J : ClassId) (sz : Nat) (yZ : Nat) (akZ : Nat) (avZ : Nat) (awZ : Nat) (aoZ : Nat) (amZ : Nat) (lkZ : Nat) (lvZ : Nat) (luZ : Nat) (npZ : Nat) (iwZ : Int32) (imZ : Int32) (ilZ : Int32) (irZ : Int32) (iuZ : Int32) (iaZ : Int32) (icZ : Int32) (fZ : Nat → Int32) (gZ : Nat → Int32) (kZ : Int32) (hnp : npZ ≤ 200) : mCl l yX3_remove wsX3_remove 3 66 0 0 D I J [.ref yZ, .int kZ] [(yZ, .inr (3, [.ref akZ, .ref avZ, .ref awZ, .ref aoZ, .ref amZ, .ref lkZ, .ref lvZ, .ref luZ, .int (nI npZ), .int iwZ, .int imZ, .int ilZ, .int irZ, .int iuZ, .int iaZ, .int icZ])), (akZ, .inl (I, 200, .inl fZ)), (avZ, .inl (I, 200, .inl gZ))] sz (fun (x : Int64) (u : Unit) => x = (oN gZ (rL fZ kZ npZ))) (fun (u : Unit) => [(yZ, .inr (3, [.ref akZ, .ref avZ, .ref awZ, .ref aoZ, .ref amZ, .ref lkZ, .ref lvZ, .ref luZ, .int (nI (delN npZ (rL fZ kZ npZ))), .int iwZ, .int imZ, .int ilZ, .int irZ, .int iuZ, .int iaZ, .int 0])), (akZ, .inl (I, 200, .inl (swO fZ npZ (rL fZ kZ npZ)))), (avZ, .inl (I, 200, .inl (swO gZ npZ (rL fZ kZ npZ))))]) := by
  refine m_ofl (cc := cX3_remove) (maxL := 4) (ret := (some .long)) (by decide) rfl (Nat.le_of_ble_eq_true rfl) ?_
  intro p e s m args below meth c A ls hx hb hr hlocks hml hts hown hin hK hP hD hA hS hl
  have hl : lv_has ls 4 [(0, .ref yZ), (1, .int kZ)] := hl
  have hP : va_P D vwCl [(yZ, .inr (3, [.ref akZ, .ref avZ, .ref awZ, .ref aoZ, .ref amZ, .ref lkZ, .ref lvZ, .ref luZ, .int (nI npZ), .int iwZ, .int imZ, .int ilZ, .int irZ, .int iuZ, .int iaZ, .int icZ])), (akZ, .inl (I, 200, .inl fZ)), (avZ, .inl (I, 200, .inl gZ))] s.heap := hP
  have hD : va_D A [(yZ, .inr (3, [.ref akZ, .ref avZ, .ref awZ, .ref aoZ, .ref amZ, .ref lkZ, .ref lvZ, .ref luZ, .int (nI npZ), .int iwZ, .int imZ, .int ilZ, .int irZ, .int iuZ, .int iaZ, .int icZ])), (akZ, .inl (I, 200, .inl fZ)), (avZ, .inl (I, 200, .inl gZ))] := hD
  refine lv_aload_n hx hb dX3_remove_0 rfl (lv_at hl 0 rfl) ?_
  refine lv_iconst (v := 0) hx hb dX3_remove_1 (by decide) ?_
  refine va_put (D := D) (ci := 3) (v := .int 0) (ty := .int) (C := RX3) (T := TX3) (N := 16) hx hb hts (fun _ h => List.mem_cons_of_mem _ (List.mem_append_right _ h)) tyX3 tyX3_ok nmX3 hown hK hP hD hS 0 rfl rfl 15 (by decide) (hts (.fieldLink RX3 38 "MapsByUseModel" "code" "I") (List.mem_of_getElem? (i := 1) (by decide +kernel))) (fun _ h9 => h9) rfl (by decide +kernel) rfl rfl (Nat.le_of_ble_eq_true rfl) dX3_remove_2 (fun H locs hP hD hS => ?_)
  have hP : va_P D vwCl [(yZ, .inr (3, [.ref akZ, .ref avZ, .ref awZ, .ref aoZ, .ref amZ, .ref lkZ, .ref lvZ, .ref luZ, .int (nI npZ), .int iwZ, .int imZ, .int ilZ, .int irZ, .int iuZ, .int iaZ, .int 0])), (akZ, .inl (I, 200, .inl fZ)), (avZ, .inl (I, 200, .inl gZ))] H := hP
  have hD : va_D A [(yZ, .inr (3, [.ref akZ, .ref avZ, .ref awZ, .ref aoZ, .ref amZ, .ref lkZ, .ref lvZ, .ref luZ, .int (nI npZ), .int iwZ, .int imZ, .int ilZ, .int irZ, .int iuZ, .int iaZ, .int 0])), (akZ, .inl (I, 200, .inl fZ)), (avZ, .inl (I, 200, .inl gZ))] := hD
  refine lv_aload_n hx hb dX3_remove_5 rfl (lv_at hl 0 rfl) ?_
  refine lv_iload_n hx hb dX3_remove_6 rfl (lv_at hl 1 rfl) ?_
  refine m_Vl (As := [.int kZ]) (wr := []) (ws2 := fun _ => [(yZ, .inr (3, [.ref akZ, .ref avZ, .ref awZ, .ref aoZ, .ref amZ, .ref lkZ, .ref lvZ, .ref luZ, .int (nI npZ), .int iwZ, .int imZ, .int ilZ, .int irZ, .int iuZ, .int iaZ, .int 0])), (akZ, .inl (I, 200, .inl fZ)), (avZ, .inl (I, 200, .inl gZ))]) ⟨hx, hb, hml, hown, hts⟩ hA hK hP hD hS hl.1 (c_X3_now l D I J H.size yZ akZ avZ awZ aoZ amZ lkZ lvZ luZ npZ iwZ imZ ilZ irZ iuZ iaZ 0 fZ gZ kZ (by omega)) (cwV 1 hts gX3_remove_X3_now rfl rfl rfl (by decide +kernel) ⟨Nat.le_of_ble_eq_true rfl, Nat.le_of_ble_eq_true rfl⟩) [0, 1, 2] [] [0, 1, 2] 0 3 rfl rfl rfl rfl rfl (by decide) (by decide) (by decide) (by decide) (fun _ => rfl) rfl rfl (Nat.le_of_ble_eq_true rfl) dX3_remove_7 ⟨(by exact Nat.le_of_ble_eq_true rfl), (by exact Nat.le_of_ble_eq_true rfl)⟩ (fun r_7 u_7 H locs hw_7 hP hD hS => ?_)
  try dsimp only at hw_7
  have hP : va_P D vwCl [(yZ, .inr (3, [.ref akZ, .ref avZ, .ref awZ, .ref aoZ, .ref amZ, .ref lkZ, .ref lvZ, .ref luZ, .int (nI npZ), .int iwZ, .int imZ, .int ilZ, .int irZ, .int iuZ, .int iaZ, .int 0])), (akZ, .inl (I, 200, .inl fZ)), (avZ, .inl (I, 200, .inl gZ))] H := hP
  have hD : va_D A [(yZ, .inr (3, [.ref akZ, .ref avZ, .ref awZ, .ref aoZ, .ref amZ, .ref lkZ, .ref lvZ, .ref luZ, .int (nI npZ), .int iwZ, .int imZ, .int ilZ, .int irZ, .int iuZ, .int iaZ, .int 0])), (akZ, .inl (I, 200, .inl fZ)), (avZ, .inl (I, 200, .inl gZ))] := hD
  subst hw_7
  refine lv_lstore_n (lv' := [(2, .long (oN gZ (rL fZ kZ npZ))), (0, .ref yZ), (1, .int kZ)]) hx hb dX3_remove_10 rfl hl (by decide) rfl (fun ls hl => ?_)
  refine lv_lload_n hx hb dX3_remove_11 rfl (lv_at hl 0 rfl) ?_
  refine lv_ldc2 (v := 4294967296) hx hb hown (hts (.constantLong RX3 52 (4294967296)) (List.mem_of_getElem? (i := 2) (by decide +kernel))) dX3_remove_12 ?_
  refine W.lcmp hx hb dX3_remove_15 ?_
  refine lv_if_eq (tgt := 28) hx hb dX3_remove_16 (by decide) (fun c_16 => ?_) (fun c_16 => ?_)
  · --16T
    have ho : rL fZ kZ npZ = none := oN_none (lg_cmp_0.mp c_16)
    refine lv_lload_n hx hb dX3_remove_28 rfl (lv_at hl 0 rfl) ?_
    have hEq : [(yZ, .inr (3, [.ref akZ, .ref avZ, .ref awZ, .ref aoZ, .ref amZ, .ref lkZ, .ref lvZ, .ref luZ, .int (nI npZ), .int iwZ, .int imZ, .int ilZ, .int irZ, .int iuZ, .int iaZ, .int 0])), (akZ, .inl (I, 200, .inl fZ)), (avZ, .inl (I, 200, .inl gZ))] = ([(yZ, .inr (3, [.ref akZ, .ref avZ, .ref awZ, .ref aoZ, .ref amZ, .ref lkZ, .ref lvZ, .ref luZ, .int (nI (delN npZ (rL fZ kZ npZ))), .int iwZ, .int imZ, .int ilZ, .int irZ, .int iuZ, .int iaZ, .int 0])), (akZ, .inl (I, 200, .inl (swO fZ npZ (rL fZ kZ npZ)))), (avZ, .inl (I, 200, .inl (swO gZ npZ (rL fZ kZ npZ))))] : va_W) := (by rw [ho]; rfl)
    rw [hEq] at hP hD
    refine m_lret () hx hb hr hlocks hP hD hS dX3_remove_29 (by first | exact Nat.le_of_ble_eq_true rfl | omega) (by first | exact Nat.le_of_ble_eq_true rfl | omega) ?_
    rfl
  · --16F
    obtain ⟨jZ, ho⟩ := oN_some (fun q9 => c_16 (lg_cmp_0.mpr q9))
    have hj := (rL_some ho).1
    refine lv_aload_n hx hb dX3_remove_19 rfl (lv_at hl 1 rfl) ?_
    refine lv_aload_n hx hb dX3_remove_20 rfl (lv_at hl 1 rfl) ?_
    refine lv_iload_n hx hb dX3_remove_21 rfl (lv_at hl 2 rfl) ?_
    refine m_Vi (As := [.int kZ]) (wr := [(avZ, .inl (I, 200, .inl gZ))]) (ws2 := fun _ => [(yZ, .inr (3, [.ref akZ, .ref avZ, .ref awZ, .ref aoZ, .ref amZ, .ref lkZ, .ref lvZ, .ref luZ, .int (nI npZ), .int iwZ, .int imZ, .int ilZ, .int irZ, .int iuZ, .int iaZ, .int 0])), (akZ, .inl (I, 200, .inl fZ)), (avZ, .inl (I, 200, .inl gZ))]) ⟨hx, hb, hml, hown, hts⟩ hA hK hP hD hS hl.1 (c_X3_at l D I J H.size yZ akZ avZ awZ aoZ amZ lkZ lvZ luZ npZ iwZ imZ ilZ irZ iuZ iaZ 0 fZ kZ (by omega)) (cwV 1 hts gX3_remove_X3_at rfl rfl rfl (by decide +kernel) ⟨Nat.le_of_ble_eq_true rfl, Nat.le_of_ble_eq_true rfl⟩) [0, 1] [2] [1, 2, 0] 0 3 rfl rfl rfl rfl rfl (by decide) (by decide) (by decide) (by decide) (fun _ => rfl) rfl rfl (Nat.le_of_ble_eq_true rfl) dX3_remove_22 ⟨(by exact Nat.le_of_ble_eq_true rfl), (by exact Nat.le_of_ble_eq_true rfl)⟩ (fun r_22 u_22 H locs hw_22 hP hD hS => ?_)
    try dsimp only at hw_22
    have hP : va_P D vwCl [(yZ, .inr (3, [.ref akZ, .ref avZ, .ref awZ, .ref aoZ, .ref amZ, .ref lkZ, .ref lvZ, .ref luZ, .int (nI npZ), .int iwZ, .int imZ, .int ilZ, .int irZ, .int iuZ, .int iaZ, .int 0])), (akZ, .inl (I, 200, .inl fZ)), (avZ, .inl (I, 200, .inl gZ))] H := hP
    have hD : va_D A [(yZ, .inr (3, [.ref akZ, .ref avZ, .ref awZ, .ref aoZ, .ref amZ, .ref lkZ, .ref lvZ, .ref luZ, .int (nI npZ), .int iwZ, .int imZ, .int ilZ, .int irZ, .int iuZ, .int iaZ, .int 0])), (akZ, .inl (I, 200, .inl fZ)), (avZ, .inl (I, 200, .inl gZ))] := hD
    subst hw_22
    refine m_topi (y := (nI jZ)) (by rw [ho]; rfl) ?_
    refine m_Vv (As := [.int (nI jZ)]) (wr := []) (ws2 := fun _ => [(yZ, .inr (3, [.ref akZ, .ref avZ, .ref awZ, .ref aoZ, .ref amZ, .ref lkZ, .ref lvZ, .ref luZ, .int (nI (npZ - 1)), .int iwZ, .int imZ, .int ilZ, .int irZ, .int iuZ, .int iaZ, .int 0])), (akZ, .inl (I, 200, .inl (swF fZ npZ jZ))), (avZ, .inl (I, 200, .inl (swF gZ npZ jZ)))]) ⟨hx, hb, hml, hown, hts⟩ hA hK hP hD hS hl.1 (c_X3_drops l D I J H.size yZ akZ avZ awZ aoZ amZ lkZ lvZ luZ npZ iwZ imZ ilZ irZ iuZ iaZ 0 fZ gZ jZ (by assumption) (by omega)) (cwV 1 hts gX3_remove_X3_drops rfl rfl rfl (by decide +kernel) ⟨Nat.le_of_ble_eq_true rfl, Nat.le_of_ble_eq_true rfl⟩) [0, 1, 2] [] [0, 1, 2] 0 3 rfl rfl rfl rfl rfl (by decide) (by decide) (by decide) (by decide) (fun _ => rfl) rfl rfl (Nat.le_of_ble_eq_true rfl) dX3_remove_25 ⟨(by exact Nat.le_of_ble_eq_true rfl), (by exact Nat.le_of_ble_eq_true rfl)⟩ (fun u_25 H locs hw_25 hP hD hS => ?_)
    clear hw_25
    have hP : va_P D vwCl [(yZ, .inr (3, [.ref akZ, .ref avZ, .ref awZ, .ref aoZ, .ref amZ, .ref lkZ, .ref lvZ, .ref luZ, .int (nI (npZ - 1)), .int iwZ, .int imZ, .int ilZ, .int irZ, .int iuZ, .int iaZ, .int 0])), (akZ, .inl (I, 200, .inl (swF fZ npZ jZ))), (avZ, .inl (I, 200, .inl (swF gZ npZ jZ)))] H := hP
    have hD : va_D A [(yZ, .inr (3, [.ref akZ, .ref avZ, .ref awZ, .ref aoZ, .ref amZ, .ref lkZ, .ref lvZ, .ref luZ, .int (nI (npZ - 1)), .int iwZ, .int imZ, .int ilZ, .int irZ, .int iuZ, .int iaZ, .int 0])), (akZ, .inl (I, 200, .inl (swF fZ npZ jZ))), (avZ, .inl (I, 200, .inl (swF gZ npZ jZ)))] := hD
    refine lv_lload_n hx hb dX3_remove_28 rfl (lv_at hl 0 rfl) ?_
    have hEq : [(yZ, .inr (3, [.ref akZ, .ref avZ, .ref awZ, .ref aoZ, .ref amZ, .ref lkZ, .ref lvZ, .ref luZ, .int (nI (npZ - 1)), .int iwZ, .int imZ, .int ilZ, .int irZ, .int iuZ, .int iaZ, .int 0])), (akZ, .inl (I, 200, .inl (swF fZ npZ jZ))), (avZ, .inl (I, 200, .inl (swF gZ npZ jZ)))] = ([(yZ, .inr (3, [.ref akZ, .ref avZ, .ref awZ, .ref aoZ, .ref amZ, .ref lkZ, .ref lvZ, .ref luZ, .int (nI (delN npZ (rL fZ kZ npZ))), .int iwZ, .int imZ, .int ilZ, .int irZ, .int iuZ, .int iaZ, .int 0])), (akZ, .inl (I, 200, .inl (swO fZ npZ (rL fZ kZ npZ)))), (avZ, .inl (I, 200, .inl (swO gZ npZ (rL fZ kZ npZ))))] : va_W) := (by rw [ho]; rfl)
    rw [hEq] at hP hD
    refine m_lret () hx hb hr hlocks hP hD hS dX3_remove_29 (by first | exact Nat.le_of_ble_eq_true rfl | omega) (by first | exact Nat.le_of_ble_eq_true rfl | omega) ?_
    rfl

set_option maxHeartbeats 4000000 in
set_option maxRecDepth 100000 in
theorem c_X3_removeTold (l : Launch) (D : va_G) (I J : ClassId) (sz : Nat) (yZ : Nat) (akZ : Nat) (avZ : Nat) (awZ : Nat) (aoZ : Nat) (amZ : Nat) (lkZ : Nat) (lvZ : Nat) (luZ : Nat) (npZ : Nat) (iwZ : Int32) (imZ : Int32) (ilZ : Int32) (irZ : Int32) (iuZ : Int32) (iaZ : Int32) (icZ : Int32) (fZ : Nat → Int32) (gZ : Nat → Int32) (kZ : Int32) (toldZ : Int32) (hnp : npZ ≤ 200) : mCi l yX3_removeTold wsX3_removeTold 3 66 0 0 D I J [.ref yZ, .int kZ, .int toldZ] [(yZ, .inr (3, [.ref akZ, .ref avZ, .ref awZ, .ref aoZ, .ref amZ, .ref lkZ, .ref lvZ, .ref luZ, .int (nI npZ), .int iwZ, .int imZ, .int ilZ, .int irZ, .int iuZ, .int iaZ, .int icZ])), (akZ, .inl (I, 200, .inl fZ)), (avZ, .inl (I, 200, .inl gZ))] sz (fun (x : Int32) (u : Unit) => x = (bI (decide (oN gZ (rL fZ kZ npZ) = toldZ.toInt64)))) (fun (u : Unit) => [(yZ, .inr (3, [.ref akZ, .ref avZ, .ref awZ, .ref aoZ, .ref amZ, .ref lkZ, .ref lvZ, .ref luZ, .int (nI (if (decide (oN gZ (rL fZ kZ npZ) = toldZ.toInt64)) then delN npZ (rL fZ kZ npZ) else npZ)), .int iwZ, .int imZ, .int ilZ, .int irZ, .int iuZ, .int iaZ, .int 0])), (akZ, .inl (I, 200, .inl (if (decide (oN gZ (rL fZ kZ npZ) = toldZ.toInt64)) then swO fZ npZ (rL fZ kZ npZ) else fZ))), (avZ, .inl (I, 200, .inl (if (decide (oN gZ (rL fZ kZ npZ) = toldZ.toInt64)) then swO gZ npZ (rL fZ kZ npZ) else gZ)))]) := by
  refine m_ofi (cc := cX3_removeTold) (maxL := 4) (ret := (some .boolean)) (by decide) rfl (Nat.le_of_ble_eq_true rfl) ?_
  intro p e s m args below meth c A ls hx hb hr hlocks hml hts hown hin hK hP hD hA hS hl
  have hl : lv_has ls 4 [(0, .ref yZ), (1, .int kZ), (2, .int toldZ)] := hl
  have hP : va_P D vwCl [(yZ, .inr (3, [.ref akZ, .ref avZ, .ref awZ, .ref aoZ, .ref amZ, .ref lkZ, .ref lvZ, .ref luZ, .int (nI npZ), .int iwZ, .int imZ, .int ilZ, .int irZ, .int iuZ, .int iaZ, .int icZ])), (akZ, .inl (I, 200, .inl fZ)), (avZ, .inl (I, 200, .inl gZ))] s.heap := hP
  have hD : va_D A [(yZ, .inr (3, [.ref akZ, .ref avZ, .ref awZ, .ref aoZ, .ref amZ, .ref lkZ, .ref lvZ, .ref luZ, .int (nI npZ), .int iwZ, .int imZ, .int ilZ, .int irZ, .int iuZ, .int iaZ, .int icZ])), (akZ, .inl (I, 200, .inl fZ)), (avZ, .inl (I, 200, .inl gZ))] := hD
  refine lv_aload_n hx hb dX3_removeTold_0 rfl (lv_at hl 0 rfl) ?_
  refine lv_iconst (v := 0) hx hb dX3_removeTold_1 (by decide) ?_
  refine va_put (D := D) (ci := 3) (v := .int 0) (ty := .int) (C := RX3) (T := TX3) (N := 16) hx hb hts (fun _ h => List.mem_cons_of_mem _ (List.mem_append_right _ h)) tyX3 tyX3_ok nmX3 hown hK hP hD hS 0 rfl rfl 15 (by decide) (hts (.fieldLink RX3 38 "MapsByUseModel" "code" "I") (List.mem_of_getElem? (i := 1) (by decide +kernel))) (fun _ h9 => h9) rfl (by decide +kernel) rfl rfl (Nat.le_of_ble_eq_true rfl) dX3_removeTold_2 (fun H locs hP hD hS => ?_)
  have hP : va_P D vwCl [(yZ, .inr (3, [.ref akZ, .ref avZ, .ref awZ, .ref aoZ, .ref amZ, .ref lkZ, .ref lvZ, .ref luZ, .int (nI npZ), .int iwZ, .int imZ, .int ilZ, .int irZ, .int iuZ, .int iaZ, .int 0])), (akZ, .inl (I, 200, .inl fZ)), (avZ, .inl (I, 200, .inl gZ))] H := hP
  have hD : va_D A [(yZ, .inr (3, [.ref akZ, .ref avZ, .ref awZ, .ref aoZ, .ref amZ, .ref lkZ, .ref lvZ, .ref luZ, .int (nI npZ), .int iwZ, .int imZ, .int ilZ, .int irZ, .int iuZ, .int iaZ, .int 0])), (akZ, .inl (I, 200, .inl fZ)), (avZ, .inl (I, 200, .inl gZ))] := hD
  refine lv_aload_n hx hb dX3_removeTold_5 rfl (lv_at hl 0 rfl) ?_
  refine lv_iload_n hx hb dX3_removeTold_6 rfl (lv_at hl 1 rfl) ?_
  refine m_Vl (As := [.int kZ]) (wr := []) (ws2 := fun _ => [(yZ, .inr (3, [.ref akZ, .ref avZ, .ref awZ, .ref aoZ, .ref amZ, .ref lkZ, .ref lvZ, .ref luZ, .int (nI npZ), .int iwZ, .int imZ, .int ilZ, .int irZ, .int iuZ, .int iaZ, .int 0])), (akZ, .inl (I, 200, .inl fZ)), (avZ, .inl (I, 200, .inl gZ))]) ⟨hx, hb, hml, hown, hts⟩ hA hK hP hD hS hl.1 (c_X3_now l D I J H.size yZ akZ avZ awZ aoZ amZ lkZ lvZ luZ npZ iwZ imZ ilZ irZ iuZ iaZ 0 fZ gZ kZ (by omega)) (cwV 1 hts gX3_removeTold_X3_now rfl rfl rfl (by decide +kernel) ⟨Nat.le_of_ble_eq_true rfl, Nat.le_of_ble_eq_true rfl⟩) [0, 1, 2] [] [0, 1, 2] 0 3 rfl rfl rfl rfl rfl (by decide) (by decide) (by decide) (by decide) (fun _ => rfl) rfl rfl (Nat.le_of_ble_eq_true rfl) dX3_removeTold_7 ⟨(by exact Nat.le_of_ble_eq_true rfl), (by exact Nat.le_of_ble_eq_true rfl)⟩ (fun r_7 u_7 H locs hw_7 hP hD hS => ?_)
  try dsimp only at hw_7
  have hP : va_P D vwCl [(yZ, .inr (3, [.ref akZ, .ref avZ, .ref awZ, .ref aoZ, .ref amZ, .ref lkZ, .ref lvZ, .ref luZ, .int (nI npZ), .int iwZ, .int imZ, .int ilZ, .int irZ, .int iuZ, .int iaZ, .int 0])), (akZ, .inl (I, 200, .inl fZ)), (avZ, .inl (I, 200, .inl gZ))] H := hP
  have hD : va_D A [(yZ, .inr (3, [.ref akZ, .ref avZ, .ref awZ, .ref aoZ, .ref amZ, .ref lkZ, .ref lvZ, .ref luZ, .int (nI npZ), .int iwZ, .int imZ, .int ilZ, .int irZ, .int iuZ, .int iaZ, .int 0])), (akZ, .inl (I, 200, .inl fZ)), (avZ, .inl (I, 200, .inl gZ))] := hD
  subst hw_7
  refine lv_iload_n hx hb dX3_removeTold_10 rfl (lv_at hl 2 rfl) ?_
  refine lv_i2l (v := (toldZ).toInt64) hx hb dX3_removeTold_11 rfl ?_
  refine W.lcmp hx hb dX3_removeTold_12 ?_
  refine lv_if_ne (tgt := 20) hx hb dX3_removeTold_13 (by decide) (fun c_13 => ?_) (fun c_13 => ?_)
  · --13T
    have hq : (decide (oN gZ (rL fZ kZ npZ) = toldZ.toInt64)) = false := decide_eq_false (fun h => c_13 (lg_cmp_0.mpr h))
    refine lv_iconst (v := 0) hx hb dX3_removeTold_20 (by decide) ?_
    refine lv_istore_n (lv' := [(3, .int 0), (0, .ref yZ), (1, .int kZ), (2, .int toldZ)]) hx hb dX3_removeTold_21 rfl hl (by decide) rfl (fun ls hl => ?_)
    refine lv_iload_n hx hb dX3_removeTold_22 rfl (lv_at hl 0 rfl) ?_
    refine lv_if_eq (tgt := 35) hx hb dX3_removeTold_23 (by decide) (fun c_23 => ?_) (fun c_23 => ?_)
    · --13T23T
      refine lv_iload_n hx hb dX3_removeTold_35 rfl (lv_at hl 0 rfl) ?_
      have hEq : [(yZ, .inr (3, [.ref akZ, .ref avZ, .ref awZ, .ref aoZ, .ref amZ, .ref lkZ, .ref lvZ, .ref luZ, .int (nI npZ), .int iwZ, .int imZ, .int ilZ, .int irZ, .int iuZ, .int iaZ, .int 0])), (akZ, .inl (I, 200, .inl fZ)), (avZ, .inl (I, 200, .inl gZ))] = ([(yZ, .inr (3, [.ref akZ, .ref avZ, .ref awZ, .ref aoZ, .ref amZ, .ref lkZ, .ref lvZ, .ref luZ, .int (nI (if (decide (oN gZ (rL fZ kZ npZ) = toldZ.toInt64)) then delN npZ (rL fZ kZ npZ) else npZ)), .int iwZ, .int imZ, .int ilZ, .int irZ, .int iuZ, .int iaZ, .int 0])), (akZ, .inl (I, 200, .inl (if (decide (oN gZ (rL fZ kZ npZ) = toldZ.toInt64)) then swO fZ npZ (rL fZ kZ npZ) else fZ))), (avZ, .inl (I, 200, .inl (if (decide (oN gZ (rL fZ kZ npZ) = toldZ.toInt64)) then swO gZ npZ (rL fZ kZ npZ) else gZ)))] : va_W) := (by rw [hq]; rfl)
      rw [hEq] at hP hD
      refine m_zret () hx hb hr hlocks hP hD hS dX3_removeTold_36 (by first | exact Nat.le_of_ble_eq_true rfl | omega) (by first | exact Nat.le_of_ble_eq_true rfl | omega) (by rfl) ?_
      rw [hq]; rfl
    · --13T23F
      exact absurd rfl c_23
  · --13F
    have hq : (decide (oN gZ (rL fZ kZ npZ) = toldZ.toInt64)) = true := decide_eq_true (lg_cmp_0.mp c_13)
    obtain ⟨jZ, ho⟩ := oN_told (lg_cmp_0.mp c_13)
    have hj := (rL_some ho).1
    refine lv_iconst (v := 1) hx hb dX3_removeTold_16 (by decide) ?_
    refine lv_goto (tgt := 21) hx hb dX3_removeTold_17 (by decide) ?_
    refine lv_istore_n (lv' := [(3, .int 1), (0, .ref yZ), (1, .int kZ), (2, .int toldZ)]) hx hb dX3_removeTold_21 rfl hl (by decide) rfl (fun ls hl => ?_)
    refine lv_iload_n hx hb dX3_removeTold_22 rfl (lv_at hl 0 rfl) ?_
    refine lv_if_eq (tgt := 35) hx hb dX3_removeTold_23 (by decide) (fun c_23 => ?_) (fun c_23 => ?_)
    · --13F23T
      exact absurd c_23 (by decide)
    · --13F23F
      refine lv_aload_n hx hb dX3_removeTold_26 rfl (lv_at hl 1 rfl) ?_
      refine lv_aload_n hx hb dX3_removeTold_27 rfl (lv_at hl 1 rfl) ?_
      refine lv_iload_n hx hb dX3_removeTold_28 rfl (lv_at hl 2 rfl) ?_
      refine m_Vi (As := [.int kZ]) (wr := [(avZ, .inl (I, 200, .inl gZ))]) (ws2 := fun _ => [(yZ, .inr (3, [.ref akZ, .ref avZ, .ref awZ, .ref aoZ, .ref amZ, .ref lkZ, .ref lvZ, .ref luZ, .int (nI npZ), .int iwZ, .int imZ, .int ilZ, .int irZ, .int iuZ, .int iaZ, .int 0])), (akZ, .inl (I, 200, .inl fZ)), (avZ, .inl (I, 200, .inl gZ))]) ⟨hx, hb, hml, hown, hts⟩ hA hK hP hD hS hl.1 (c_X3_at l D I J H.size yZ akZ avZ awZ aoZ amZ lkZ lvZ luZ npZ iwZ imZ ilZ irZ iuZ iaZ 0 fZ kZ (by omega)) (cwV 1 hts gX3_removeTold_X3_at rfl rfl rfl (by decide +kernel) ⟨Nat.le_of_ble_eq_true rfl, Nat.le_of_ble_eq_true rfl⟩) [0, 1] [2] [1, 2, 0] 0 3 rfl rfl rfl rfl rfl (by decide) (by decide) (by decide) (by decide) (fun _ => rfl) rfl rfl (Nat.le_of_ble_eq_true rfl) dX3_removeTold_29 ⟨(by exact Nat.le_of_ble_eq_true rfl), (by exact Nat.le_of_ble_eq_true rfl)⟩ (fun r_29 u_29 H locs hw_29 hP hD hS => ?_)
      try dsimp only at hw_29
      have hP : va_P D vwCl [(yZ, .inr (3, [.ref akZ, .ref avZ, .ref awZ, .ref aoZ, .ref amZ, .ref lkZ, .ref lvZ, .ref luZ, .int (nI npZ), .int iwZ, .int imZ, .int ilZ, .int irZ, .int iuZ, .int iaZ, .int 0])), (akZ, .inl (I, 200, .inl fZ)), (avZ, .inl (I, 200, .inl gZ))] H := hP
      have hD : va_D A [(yZ, .inr (3, [.ref akZ, .ref avZ, .ref awZ, .ref aoZ, .ref amZ, .ref lkZ, .ref lvZ, .ref luZ, .int (nI npZ), .int iwZ, .int imZ, .int ilZ, .int irZ, .int iuZ, .int iaZ, .int 0])), (akZ, .inl (I, 200, .inl fZ)), (avZ, .inl (I, 200, .inl gZ))] := hD
      subst hw_29
      refine m_topi (y := (nI jZ)) (by rw [ho]; rfl) ?_
      refine m_Vv (As := [.int (nI jZ)]) (wr := []) (ws2 := fun _ => [(yZ, .inr (3, [.ref akZ, .ref avZ, .ref awZ, .ref aoZ, .ref amZ, .ref lkZ, .ref lvZ, .ref luZ, .int (nI (npZ - 1)), .int iwZ, .int imZ, .int ilZ, .int irZ, .int iuZ, .int iaZ, .int 0])), (akZ, .inl (I, 200, .inl (swF fZ npZ jZ))), (avZ, .inl (I, 200, .inl (swF gZ npZ jZ)))]) ⟨hx, hb, hml, hown, hts⟩ hA hK hP hD hS hl.1 (c_X3_drops l D I J H.size yZ akZ avZ awZ aoZ amZ lkZ lvZ luZ npZ iwZ imZ ilZ irZ iuZ iaZ 0 fZ gZ jZ (by assumption) (by omega)) (cwV 1 hts gX3_removeTold_X3_drops rfl rfl rfl (by decide +kernel) ⟨Nat.le_of_ble_eq_true rfl, Nat.le_of_ble_eq_true rfl⟩) [0, 1, 2] [] [0, 1, 2] 0 3 rfl rfl rfl rfl rfl (by decide) (by decide) (by decide) (by decide) (fun _ => rfl) rfl rfl (Nat.le_of_ble_eq_true rfl) dX3_removeTold_32 ⟨(by exact Nat.le_of_ble_eq_true rfl), (by exact Nat.le_of_ble_eq_true rfl)⟩ (fun u_32 H locs hw_32 hP hD hS => ?_)
      clear hw_32
      have hP : va_P D vwCl [(yZ, .inr (3, [.ref akZ, .ref avZ, .ref awZ, .ref aoZ, .ref amZ, .ref lkZ, .ref lvZ, .ref luZ, .int (nI (npZ - 1)), .int iwZ, .int imZ, .int ilZ, .int irZ, .int iuZ, .int iaZ, .int 0])), (akZ, .inl (I, 200, .inl (swF fZ npZ jZ))), (avZ, .inl (I, 200, .inl (swF gZ npZ jZ)))] H := hP
      have hD : va_D A [(yZ, .inr (3, [.ref akZ, .ref avZ, .ref awZ, .ref aoZ, .ref amZ, .ref lkZ, .ref lvZ, .ref luZ, .int (nI (npZ - 1)), .int iwZ, .int imZ, .int ilZ, .int irZ, .int iuZ, .int iaZ, .int 0])), (akZ, .inl (I, 200, .inl (swF fZ npZ jZ))), (avZ, .inl (I, 200, .inl (swF gZ npZ jZ)))] := hD
      refine lv_iload_n hx hb dX3_removeTold_35 rfl (lv_at hl 0 rfl) ?_
      have hEq : [(yZ, .inr (3, [.ref akZ, .ref avZ, .ref awZ, .ref aoZ, .ref amZ, .ref lkZ, .ref lvZ, .ref luZ, .int (nI (npZ - 1)), .int iwZ, .int imZ, .int ilZ, .int irZ, .int iuZ, .int iaZ, .int 0])), (akZ, .inl (I, 200, .inl (swF fZ npZ jZ))), (avZ, .inl (I, 200, .inl (swF gZ npZ jZ)))] = ([(yZ, .inr (3, [.ref akZ, .ref avZ, .ref awZ, .ref aoZ, .ref amZ, .ref lkZ, .ref lvZ, .ref luZ, .int (nI (if (decide (oN gZ (rL fZ kZ npZ) = toldZ.toInt64)) then delN npZ (rL fZ kZ npZ) else npZ)), .int iwZ, .int imZ, .int ilZ, .int irZ, .int iuZ, .int iaZ, .int 0])), (akZ, .inl (I, 200, .inl (if (decide (oN gZ (rL fZ kZ npZ) = toldZ.toInt64)) then swO fZ npZ (rL fZ kZ npZ) else fZ))), (avZ, .inl (I, 200, .inl (if (decide (oN gZ (rL fZ kZ npZ) = toldZ.toInt64)) then swO gZ npZ (rL fZ kZ npZ) else gZ)))] : va_W) := (by rw [hq, ho]; rfl)
      rw [hEq] at hP hD
      refine m_zret () hx hb hr hlocks hP hD hS dX3_removeTold_36 (by first | exact Nat.le_of_ble_eq_true rfl | omega) (by first | exact Nat.le_of_ble_eq_true rfl | omega) (by rfl) ?_
      rw [hq]; rfl

set_option maxHeartbeats 4000000 in
set_option maxRecDepth 100000 in
theorem c_X3_containsKey (l : Launch) (D : va_G) (I J : ClassId) (sz : Nat) (yZ : Nat) (akZ : Nat) (avZ : Nat) (awZ : Nat) (aoZ : Nat) (amZ : Nat) (lkZ : Nat) (lvZ : Nat) (luZ : Nat) (npZ : Nat) (iwZ : Int32) (imZ : Int32) (ilZ : Int32) (irZ : Int32) (iuZ : Int32) (iaZ : Int32) (icZ : Int32) (fZ : Nat → Int32) (kZ : Int32) (hnp : npZ ≤ 200) : mCi l yX3_containsKey wsX3_containsKey 2 45 0 0 D I J [.ref yZ, .int kZ] [(yZ, .inr (3, [.ref akZ, .ref avZ, .ref awZ, .ref aoZ, .ref amZ, .ref lkZ, .ref lvZ, .ref luZ, .int (nI npZ), .int iwZ, .int imZ, .int ilZ, .int irZ, .int iuZ, .int iaZ, .int icZ])), (akZ, .inl (I, 200, .inl fZ))] sz (fun (x : Int32) (u : Unit) => x = (bI (rL fZ kZ npZ).isSome)) (fun (u : Unit) => [(yZ, .inr (3, [.ref akZ, .ref avZ, .ref awZ, .ref aoZ, .ref amZ, .ref lkZ, .ref lvZ, .ref luZ, .int (nI npZ), .int iwZ, .int imZ, .int ilZ, .int irZ, .int iuZ, .int iaZ, .int 0])), (akZ, .inl (I, 200, .inl fZ))]) := by
  refine m_ofi (cc := cX3_containsKey) (maxL := 2) (ret := (some .boolean)) (by decide) rfl (Nat.le_of_ble_eq_true rfl) ?_
  intro p e s m args below meth c A ls hx hb hr hlocks hml hts hown hin hK hP hD hA hS hl
  have hl : lv_has ls 2 [(0, .ref yZ), (1, .int kZ)] := hl
  have hP : va_P D vwCl [(yZ, .inr (3, [.ref akZ, .ref avZ, .ref awZ, .ref aoZ, .ref amZ, .ref lkZ, .ref lvZ, .ref luZ, .int (nI npZ), .int iwZ, .int imZ, .int ilZ, .int irZ, .int iuZ, .int iaZ, .int icZ])), (akZ, .inl (I, 200, .inl fZ))] s.heap := hP
  have hD : va_D A [(yZ, .inr (3, [.ref akZ, .ref avZ, .ref awZ, .ref aoZ, .ref amZ, .ref lkZ, .ref lvZ, .ref luZ, .int (nI npZ), .int iwZ, .int imZ, .int ilZ, .int irZ, .int iuZ, .int iaZ, .int icZ])), (akZ, .inl (I, 200, .inl fZ))] := hD
  refine lv_aload_n hx hb dX3_containsKey_0 rfl (lv_at hl 0 rfl) ?_
  refine lv_iconst (v := 0) hx hb dX3_containsKey_1 (by decide) ?_
  refine va_put (D := D) (ci := 3) (v := .int 0) (ty := .int) (C := RX3) (T := TX3) (N := 16) hx hb hts (fun _ h => List.mem_cons_of_mem _ (List.mem_append_right _ h)) tyX3 tyX3_ok nmX3 hown hK hP hD hS 0 rfl rfl 15 (by decide) (hts (.fieldLink RX3 38 "MapsByUseModel" "code" "I") (List.mem_of_getElem? (i := 1) (by decide +kernel))) (fun _ h9 => h9) rfl (by decide +kernel) rfl rfl (Nat.le_of_ble_eq_true rfl) dX3_containsKey_2 (fun H locs hP hD hS => ?_)
  have hP : va_P D vwCl [(yZ, .inr (3, [.ref akZ, .ref avZ, .ref awZ, .ref aoZ, .ref amZ, .ref lkZ, .ref lvZ, .ref luZ, .int (nI npZ), .int iwZ, .int imZ, .int ilZ, .int irZ, .int iuZ, .int iaZ, .int 0])), (akZ, .inl (I, 200, .inl fZ))] H := hP
  have hD : va_D A [(yZ, .inr (3, [.ref akZ, .ref avZ, .ref awZ, .ref aoZ, .ref amZ, .ref lkZ, .ref lvZ, .ref luZ, .int (nI npZ), .int iwZ, .int imZ, .int ilZ, .int irZ, .int iuZ, .int iaZ, .int 0])), (akZ, .inl (I, 200, .inl fZ))] := hD
  refine lv_aload_n hx hb dX3_containsKey_5 rfl (lv_at hl 0 rfl) ?_
  refine lv_iload_n hx hb dX3_containsKey_6 rfl (lv_at hl 1 rfl) ?_
  refine m_Vi (As := [.int kZ]) (wr := []) (ws2 := fun _ => [(yZ, .inr (3, [.ref akZ, .ref avZ, .ref awZ, .ref aoZ, .ref amZ, .ref lkZ, .ref lvZ, .ref luZ, .int (nI npZ), .int iwZ, .int imZ, .int ilZ, .int irZ, .int iuZ, .int iaZ, .int 0])), (akZ, .inl (I, 200, .inl fZ))]) ⟨hx, hb, hml, hown, hts⟩ hA hK hP hD hS hl.1 (c_X3_at l D I J H.size yZ akZ avZ awZ aoZ amZ lkZ lvZ luZ npZ iwZ imZ ilZ irZ iuZ iaZ 0 fZ kZ (by omega)) (cwV 1 hts gX3_containsKey_X3_at rfl rfl rfl (by decide +kernel) ⟨Nat.le_of_ble_eq_true rfl, Nat.le_of_ble_eq_true rfl⟩) [0, 1] [] [0, 1] 0 3 rfl rfl rfl rfl rfl (by decide) (by decide) (by decide) (by decide) (fun _ => rfl) rfl rfl (Nat.le_of_ble_eq_true rfl) dX3_containsKey_7 ⟨(by exact Nat.le_of_ble_eq_true rfl), (by exact Nat.le_of_ble_eq_true rfl)⟩ (fun r_7 u_7 H locs hw_7 hP hD hS => ?_)
  try dsimp only at hw_7
  have hP : va_P D vwCl [(yZ, .inr (3, [.ref akZ, .ref avZ, .ref awZ, .ref aoZ, .ref amZ, .ref lkZ, .ref lvZ, .ref luZ, .int (nI npZ), .int iwZ, .int imZ, .int ilZ, .int irZ, .int iuZ, .int iaZ, .int 0])), (akZ, .inl (I, 200, .inl fZ))] H := hP
  have hD : va_D A [(yZ, .inr (3, [.ref akZ, .ref avZ, .ref awZ, .ref aoZ, .ref amZ, .ref lkZ, .ref lvZ, .ref luZ, .int (nI npZ), .int iwZ, .int imZ, .int ilZ, .int irZ, .int iuZ, .int iaZ, .int 0])), (akZ, .inl (I, 200, .inl fZ))] := hD
  subst hw_7
  refine lv_if_lt (tgt := 17) hx hb dX3_containsKey_10 (by decide) (fun c_10 => ?_) (fun c_10 => ?_)
  · --10T
    refine lv_iconst (v := 0) hx hb dX3_containsKey_17 (by decide) ?_
    refine m_zret () hx hb hr hlocks hP hD hS dX3_containsKey_18 (by first | exact Nat.le_of_ble_eq_true rfl | omega) (by first | exact Nat.le_of_ble_eq_true rfl | omega) (by rfl) ?_
    rw [(iO_neg (rL_lt (by omega))).mp c_10]; rfl
  · --10F
    refine lv_iconst (v := 1) hx hb dX3_containsKey_13 (by decide) ?_
    refine lv_goto (tgt := 18) hx hb dX3_containsKey_14 (by decide) ?_
    refine m_zret () hx hb hr hlocks hP hD hS dX3_containsKey_18 (by first | exact Nat.le_of_ble_eq_true rfl | omega) (by first | exact Nat.le_of_ble_eq_true rfl | omega) (by rfl) ?_
    obtain ⟨jZ, ho⟩ := iO_lts c_10
    rw [ho]; rfl

set_option maxHeartbeats 4000000 in
set_option maxRecDepth 100000 in
theorem c_X3_containsValue (l : Launch) (D : va_G) (I J : ClassId) (sz : Nat) (yZ : Nat) (akZ : Nat) (avZ : Nat) (awZ : Nat) (aoZ : Nat) (amZ : Nat) (lkZ : Nat) (lvZ : Nat) (luZ : Nat) (npZ : Nat) (iwZ : Int32) (imZ : Int32) (ilZ : Int32) (irZ : Int32) (iuZ : Int32) (iaZ : Int32) (icZ : Int32) (gZ : Nat → Int32) (vZ : Int32) (hnp : npZ ≤ 200) : mCi l yX3_containsValue wsX3_containsValue 1 24 0 0 D I J [.ref yZ, .int vZ] [(yZ, .inr (3, [.ref akZ, .ref avZ, .ref awZ, .ref aoZ, .ref amZ, .ref lkZ, .ref lvZ, .ref luZ, .int (nI npZ), .int iwZ, .int imZ, .int ilZ, .int irZ, .int iuZ, .int iaZ, .int icZ])), (avZ, .inl (I, 200, .inl gZ))] sz (fun (x : Int32) (u : Unit) => x = (bI (rL gZ vZ npZ).isSome)) (fun (u : Unit) => [(yZ, .inr (3, [.ref akZ, .ref avZ, .ref awZ, .ref aoZ, .ref amZ, .ref lkZ, .ref lvZ, .ref luZ, .int (nI npZ), .int iwZ, .int imZ, .int ilZ, .int irZ, .int iuZ, .int iaZ, .int 0])), (avZ, .inl (I, 200, .inl gZ))]) := by
  refine m_ofi (cc := cX3_containsValue) (maxL := 2) (ret := (some .boolean)) (by decide) rfl (Nat.le_of_ble_eq_true rfl) ?_
  intro p e s m args below meth c A ls hx hb hr hlocks hml hts hown hin hK hP hD hA hS hl
  have hl : lv_has ls 2 [(0, .ref yZ), (1, .int vZ)] := hl
  have hP : va_P D vwCl [(yZ, .inr (3, [.ref akZ, .ref avZ, .ref awZ, .ref aoZ, .ref amZ, .ref lkZ, .ref lvZ, .ref luZ, .int (nI npZ), .int iwZ, .int imZ, .int ilZ, .int irZ, .int iuZ, .int iaZ, .int icZ])), (avZ, .inl (I, 200, .inl gZ))] s.heap := hP
  have hD : va_D A [(yZ, .inr (3, [.ref akZ, .ref avZ, .ref awZ, .ref aoZ, .ref amZ, .ref lkZ, .ref lvZ, .ref luZ, .int (nI npZ), .int iwZ, .int imZ, .int ilZ, .int irZ, .int iuZ, .int iaZ, .int icZ])), (avZ, .inl (I, 200, .inl gZ))] := hD
  refine lv_aload_n hx hb dX3_containsValue_0 rfl (lv_at hl 0 rfl) ?_
  refine lv_iconst (v := 0) hx hb dX3_containsValue_1 (by decide) ?_
  refine va_put (D := D) (ci := 3) (v := .int 0) (ty := .int) (C := RX3) (T := TX3) (N := 16) hx hb hts (fun _ h => List.mem_cons_of_mem _ (List.mem_append_right _ h)) tyX3 tyX3_ok nmX3 hown hK hP hD hS 0 rfl rfl 15 (by decide) (hts (.fieldLink RX3 38 "MapsByUseModel" "code" "I") (List.mem_of_getElem? (i := 1) (by decide +kernel))) (fun _ h9 => h9) rfl (by decide +kernel) rfl rfl (Nat.le_of_ble_eq_true rfl) dX3_containsValue_2 (fun H locs hP hD hS => ?_)
  have hP : va_P D vwCl [(yZ, .inr (3, [.ref akZ, .ref avZ, .ref awZ, .ref aoZ, .ref amZ, .ref lkZ, .ref lvZ, .ref luZ, .int (nI npZ), .int iwZ, .int imZ, .int ilZ, .int irZ, .int iuZ, .int iaZ, .int 0])), (avZ, .inl (I, 200, .inl gZ))] H := hP
  have hD : va_D A [(yZ, .inr (3, [.ref akZ, .ref avZ, .ref awZ, .ref aoZ, .ref amZ, .ref lkZ, .ref lvZ, .ref luZ, .int (nI npZ), .int iwZ, .int imZ, .int ilZ, .int irZ, .int iuZ, .int iaZ, .int 0])), (avZ, .inl (I, 200, .inl gZ))] := hD
  refine lv_aload_n hx hb dX3_containsValue_5 rfl (lv_at hl 0 rfl) ?_
  refine va_get (D := D) (ci := 3) (v := .ref avZ) (C := RX3) (T := TX3) (N := 16) hx hb hts (fun _ h => List.mem_cons_of_mem _ (List.mem_append_right _ h)) hown hK hP 0 rfl rfl 1 (by decide) (hts (.fieldLink RX3 13 "MapsByUseModel" "values" "[I") (List.mem_of_getElem? (i := 2) (by decide +kernel))) (fun _ h9 => h9) rfl dX3_containsValue_6 ?_
  refine lv_aload_n hx hb dX3_containsValue_9 rfl (lv_at hl 0 rfl) ?_
  refine va_get (D := D) (ci := 3) (v := .int (nI npZ)) (C := RX3) (T := TX3) (N := 16) hx hb hts (fun _ h => List.mem_cons_of_mem _ (List.mem_append_right _ h)) hown hK hP 0 rfl rfl 8 (by decide) (hts (.fieldLink RX3 41 "MapsByUseModel" "pairs" "I") (List.mem_of_getElem? (i := 3) (by decide +kernel))) (fun _ h9 => h9) rfl dX3_containsValue_10 ?_
  refine lv_iload_n hx hb dX3_containsValue_13 rfl (lv_at hl 1 rfl) ?_
  refine m_Si (As := [.ref avZ, .int (nI npZ), .int vZ]) (wr := [(yZ, .inr (3, [.ref akZ, .ref avZ, .ref awZ, .ref aoZ, .ref amZ, .ref lkZ, .ref lvZ, .ref luZ, .int (nI npZ), .int iwZ, .int imZ, .int ilZ, .int irZ, .int iuZ, .int iaZ, .int 0]))]) (ws2 := fun _ => [(yZ, .inr (3, [.ref akZ, .ref avZ, .ref awZ, .ref aoZ, .ref amZ, .ref lkZ, .ref lvZ, .ref luZ, .int (nI npZ), .int iwZ, .int imZ, .int ilZ, .int irZ, .int iuZ, .int iaZ, .int 0])), (avZ, .inl (I, 200, .inl gZ))]) ⟨hx, hb, hml, hown, hts⟩ hA hK hP hD hS hl.1 (c_X3_find l D I J H.size avZ 200 gZ npZ vZ (by omega) (by omega)) (cwS 3 hts gX3_containsValue_X3_find rfl rfl rfl (by decide +kernel) ⟨Nat.le_of_ble_eq_true rfl, Nat.le_of_ble_eq_true rfl⟩) [1] [0] [0, 1] rfl rfl (by decide) (by decide) (by decide) (by decide) (fun _ => rfl) rfl rfl (Nat.le_of_ble_eq_true rfl) dX3_containsValue_14 ⟨(by exact Nat.le_of_ble_eq_true rfl), (by exact Nat.le_of_ble_eq_true rfl)⟩ (fun r_14 u_14 H locs hw_14 hP hD hS => ?_)
  try dsimp only at hw_14
  have hP : va_P D vwCl [(yZ, .inr (3, [.ref akZ, .ref avZ, .ref awZ, .ref aoZ, .ref amZ, .ref lkZ, .ref lvZ, .ref luZ, .int (nI npZ), .int iwZ, .int imZ, .int ilZ, .int irZ, .int iuZ, .int iaZ, .int 0])), (avZ, .inl (I, 200, .inl gZ))] H := hP
  have hD : va_D A [(yZ, .inr (3, [.ref akZ, .ref avZ, .ref awZ, .ref aoZ, .ref amZ, .ref lkZ, .ref lvZ, .ref luZ, .int (nI npZ), .int iwZ, .int imZ, .int ilZ, .int irZ, .int iuZ, .int iaZ, .int 0])), (avZ, .inl (I, 200, .inl gZ))] := hD
  subst hw_14
  refine lv_if_lt (tgt := 24) hx hb dX3_containsValue_17 (by decide) (fun c_17 => ?_) (fun c_17 => ?_)
  · --17T
    refine lv_iconst (v := 0) hx hb dX3_containsValue_24 (by decide) ?_
    refine m_zret () hx hb hr hlocks hP hD hS dX3_containsValue_25 (by first | exact Nat.le_of_ble_eq_true rfl | omega) (by first | exact Nat.le_of_ble_eq_true rfl | omega) (by rfl) ?_
    rw [(iO_neg (rL_lt (by omega))).mp c_17]; rfl
  · --17F
    refine lv_iconst (v := 1) hx hb dX3_containsValue_20 (by decide) ?_
    refine lv_goto (tgt := 25) hx hb dX3_containsValue_21 (by decide) ?_
    refine m_zret () hx hb hr hlocks hP hD hS dX3_containsValue_25 (by first | exact Nat.le_of_ble_eq_true rfl | omega) (by first | exact Nat.le_of_ble_eq_true rfl | omega) (by rfl) ?_
    obtain ⟨jZ, ho⟩ := iO_lts c_17
    rw [ho]; rfl

set_option maxHeartbeats 4000000 in
set_option maxRecDepth 100000 in
theorem c_X3_merge (l : Launch) (D : va_G) (I J : ClassId) (sz : Nat) (yZ : Nat) (akZ : Nat) (avZ : Nat) (awZ : Nat) (aoZ : Nat) (amZ : Nat) (lkZ : Nat) (lvZ : Nat) (luZ : Nat) (npZ : Nat) (iwZ : Int32) (imZ : Int32) (ilZ : Int32) (irZ : Int32) (iuZ : Int32) (iaZ : Int32) (icZ : Int32) (fZ : Nat → Int32) (gZ : Nat → Int32) (kZ : Int32) (vZ : Int32) (hfull : fullB (rL fZ kZ npZ) npZ = false) (hinj : Inj fZ npZ) (hnp : npZ ≤ 200) : mCl l yX3_merge wsX3_merge 3 68 0 0 D I J [.ref yZ, .int kZ, .int vZ] [(yZ, .inr (3, [.ref akZ, .ref avZ, .ref awZ, .ref aoZ, .ref amZ, .ref lkZ, .ref lvZ, .ref luZ, .int (nI npZ), .int iwZ, .int imZ, .int ilZ, .int irZ, .int iuZ, .int iaZ, .int icZ])), (akZ, .inl (I, 200, .inl fZ)), (avZ, .inl (I, 200, .inl gZ))] sz (fun (x : Int64) (u : Unit) => x = (mrgA gZ vZ (rL fZ kZ npZ))) (fun (u : Unit) => [(yZ, .inr (3, [.ref akZ, .ref avZ, .ref awZ, .ref aoZ, .ref amZ, .ref lkZ, .ref lvZ, .ref luZ, .int (nI (mgN npZ gZ vZ (rL fZ kZ npZ))), .int iwZ, .int imZ, .int ilZ, .int irZ, .int iuZ, .int iaZ, .int 0])), (akZ, .inl (I, 200, .inl (mgF fZ npZ kZ gZ vZ (rL fZ kZ npZ)))), (avZ, .inl (I, 200, .inl (mgG gZ npZ vZ (rL fZ kZ npZ))))]) := by
  refine m_ofl (cc := cX3_merge) (maxL := 4) (ret := (some .long)) (by decide) rfl (Nat.le_of_ble_eq_true rfl) ?_
  intro p e s m args below meth c A ls hx hb hr hlocks hml hts hown hin hK hP hD hA hS hl
  have hl : lv_has ls 4 [(0, .ref yZ), (1, .int kZ), (2, .int vZ)] := hl
  have hP : va_P D vwCl [(yZ, .inr (3, [.ref akZ, .ref avZ, .ref awZ, .ref aoZ, .ref amZ, .ref lkZ, .ref lvZ, .ref luZ, .int (nI npZ), .int iwZ, .int imZ, .int ilZ, .int irZ, .int iuZ, .int iaZ, .int icZ])), (akZ, .inl (I, 200, .inl fZ)), (avZ, .inl (I, 200, .inl gZ))] s.heap := hP
  have hD : va_D A [(yZ, .inr (3, [.ref akZ, .ref avZ, .ref awZ, .ref aoZ, .ref amZ, .ref lkZ, .ref lvZ, .ref luZ, .int (nI npZ), .int iwZ, .int imZ, .int ilZ, .int irZ, .int iuZ, .int iaZ, .int icZ])), (akZ, .inl (I, 200, .inl fZ)), (avZ, .inl (I, 200, .inl gZ))] := hD
  have hnew : rL fZ kZ npZ = none → npZ < 200 := fun q => by
    rcases Nat.lt_or_ge npZ 200 with h | h
    · exact h
    · have e : npZ = 200 := by omega
      rw [q, e] at hfull
      exact absurd hfull (by decide)
  refine lv_aload_n hx hb dX3_merge_0 rfl (lv_at hl 0 rfl) ?_
  refine lv_aload_n hx hb dX3_merge_1 rfl (lv_at hl 0 rfl) ?_
  refine lv_iload_n hx hb dX3_merge_2 rfl (lv_at hl 1 rfl) ?_
  refine m_Vi (As := [.int kZ]) (wr := [(avZ, .inl (I, 200, .inl gZ))]) (ws2 := fun _ => [(yZ, .inr (3, [.ref akZ, .ref avZ, .ref awZ, .ref aoZ, .ref amZ, .ref lkZ, .ref lvZ, .ref luZ, .int (nI npZ), .int iwZ, .int imZ, .int ilZ, .int irZ, .int iuZ, .int iaZ, .int icZ])), (akZ, .inl (I, 200, .inl fZ)), (avZ, .inl (I, 200, .inl gZ))]) ⟨hx, hb, hml, hown, hts⟩ hA hK hP hD hS hl.1 (c_X3_isFull l D I J s.heap.size yZ akZ avZ awZ aoZ amZ lkZ lvZ luZ npZ iwZ imZ ilZ irZ iuZ iaZ icZ fZ kZ (by omega)) (cwV 1 hts gX3_merge_X3_isFull rfl rfl rfl (by decide +kernel) ⟨Nat.le_of_ble_eq_true rfl, Nat.le_of_ble_eq_true rfl⟩) [0, 1] [2] [1, 2, 0] 0 3 rfl rfl rfl rfl rfl (by decide) (by decide) (by decide) (by decide) (fun _ => rfl) rfl rfl (Nat.le_of_ble_eq_true rfl) dX3_merge_3 ⟨(by exact Nat.le_of_ble_eq_true rfl), (by exact Nat.le_of_ble_eq_true rfl)⟩ (fun r_3 u_3 H locs hw_3 hP hD hS => ?_)
  try dsimp only at hw_3
  have hP : va_P D vwCl [(yZ, .inr (3, [.ref akZ, .ref avZ, .ref awZ, .ref aoZ, .ref amZ, .ref lkZ, .ref lvZ, .ref luZ, .int (nI npZ), .int iwZ, .int imZ, .int ilZ, .int irZ, .int iuZ, .int iaZ, .int icZ])), (akZ, .inl (I, 200, .inl fZ)), (avZ, .inl (I, 200, .inl gZ))] H := hP
  have hD : va_D A [(yZ, .inr (3, [.ref akZ, .ref avZ, .ref awZ, .ref aoZ, .ref amZ, .ref lkZ, .ref lvZ, .ref luZ, .int (nI npZ), .int iwZ, .int imZ, .int ilZ, .int irZ, .int iuZ, .int iaZ, .int icZ])), (akZ, .inl (I, 200, .inl fZ)), (avZ, .inl (I, 200, .inl gZ))] := hD
  subst hw_3
  refine lv_if_eq (tgt := 13) hx hb dX3_merge_6 (by decide) (fun c_6 => ?_) (fun c_6 => ?_)
  · --6T
    refine lv_iconst (v := 0) hx hb dX3_merge_13 (by decide) ?_
    refine m_Vi (As := [.int 0]) (wr := [(akZ, .inl (I, 200, .inl fZ)), (avZ, .inl (I, 200, .inl gZ))]) (ws2 := fun _ => [(yZ, .inr (3, [.ref akZ, .ref avZ, .ref awZ, .ref aoZ, .ref amZ, .ref lkZ, .ref lvZ, .ref luZ, .int (nI npZ), .int iwZ, .int imZ, .int ilZ, .int irZ, .int iuZ, .int iaZ, .int 0])), (akZ, .inl (I, 200, .inl fZ)), (avZ, .inl (I, 200, .inl gZ))]) ⟨hx, hb, hml, hown, hts⟩ hA hK hP hD hS hl.1 (c_X3_fails l D I J H.size yZ akZ avZ awZ aoZ amZ lkZ lvZ luZ (nI npZ) iwZ imZ ilZ irZ iuZ iaZ icZ 0 ) (cwV 1 hts gX3_merge_X3_fails rfl rfl rfl (by decide +kernel) ⟨Nat.le_of_ble_eq_true rfl, Nat.le_of_ble_eq_true rfl⟩) [0] [1, 2] [2, 0, 1] 0 3 rfl rfl rfl rfl rfl (by decide) (by decide) (by decide) (by decide) (fun _ => rfl) rfl rfl (Nat.le_of_ble_eq_true rfl) dX3_merge_14 ⟨(by exact Nat.le_of_ble_eq_true rfl), (by exact Nat.le_of_ble_eq_true rfl)⟩ (fun r_14 u_14 H locs hw_14 hP hD hS => ?_)
    try dsimp only at hw_14
    have hP : va_P D vwCl [(yZ, .inr (3, [.ref akZ, .ref avZ, .ref awZ, .ref aoZ, .ref amZ, .ref lkZ, .ref lvZ, .ref luZ, .int (nI npZ), .int iwZ, .int imZ, .int ilZ, .int irZ, .int iuZ, .int iaZ, .int 0])), (akZ, .inl (I, 200, .inl fZ)), (avZ, .inl (I, 200, .inl gZ))] H := hP
    have hD : va_D A [(yZ, .inr (3, [.ref akZ, .ref avZ, .ref awZ, .ref aoZ, .ref amZ, .ref lkZ, .ref lvZ, .ref luZ, .int (nI npZ), .int iwZ, .int imZ, .int ilZ, .int irZ, .int iuZ, .int iaZ, .int 0])), (akZ, .inl (I, 200, .inl fZ)), (avZ, .inl (I, 200, .inl gZ))] := hD
    subst hw_14
    refine lv_if_eq (tgt := 22) hx hb dX3_merge_17 (by decide) (fun c_17 => ?_) (fun c_17 => ?_)
    · --6T17T
      refine lv_aload_n hx hb dX3_merge_22 rfl (lv_at hl 0 rfl) ?_
      refine lv_iload_n hx hb dX3_merge_23 rfl (lv_at hl 1 rfl) ?_
      refine m_Vi (As := [.int kZ]) (wr := [(avZ, .inl (I, 200, .inl gZ))]) (ws2 := fun _ => [(yZ, .inr (3, [.ref akZ, .ref avZ, .ref awZ, .ref aoZ, .ref amZ, .ref lkZ, .ref lvZ, .ref luZ, .int (nI npZ), .int iwZ, .int imZ, .int ilZ, .int irZ, .int iuZ, .int iaZ, .int 0])), (akZ, .inl (I, 200, .inl fZ)), (avZ, .inl (I, 200, .inl gZ))]) ⟨hx, hb, hml, hown, hts⟩ hA hK hP hD hS hl.1 (c_X3_at l D I J H.size yZ akZ avZ awZ aoZ amZ lkZ lvZ luZ npZ iwZ imZ ilZ irZ iuZ iaZ 0 fZ kZ (by omega)) (cwV 1 hts gX3_merge_X3_at rfl rfl rfl (by decide +kernel) ⟨Nat.le_of_ble_eq_true rfl, Nat.le_of_ble_eq_true rfl⟩) [0, 1] [2] [1, 2, 0] 0 3 rfl rfl rfl rfl rfl (by decide) (by decide) (by decide) (by decide) (fun _ => rfl) rfl rfl (Nat.le_of_ble_eq_true rfl) dX3_merge_24 ⟨(by exact Nat.le_of_ble_eq_true rfl), (by exact Nat.le_of_ble_eq_true rfl)⟩ (fun r_24 u_24 H locs hw_24 hP hD hS => ?_)
      try dsimp only at hw_24
      have hP : va_P D vwCl [(yZ, .inr (3, [.ref akZ, .ref avZ, .ref awZ, .ref aoZ, .ref amZ, .ref lkZ, .ref lvZ, .ref luZ, .int (nI npZ), .int iwZ, .int imZ, .int ilZ, .int irZ, .int iuZ, .int iaZ, .int 0])), (akZ, .inl (I, 200, .inl fZ)), (avZ, .inl (I, 200, .inl gZ))] H := hP
      have hD : va_D A [(yZ, .inr (3, [.ref akZ, .ref avZ, .ref awZ, .ref aoZ, .ref amZ, .ref lkZ, .ref lvZ, .ref luZ, .int (nI npZ), .int iwZ, .int imZ, .int ilZ, .int irZ, .int iuZ, .int iaZ, .int 0])), (akZ, .inl (I, 200, .inl fZ)), (avZ, .inl (I, 200, .inl gZ))] := hD
      subst hw_24
      refine lv_if_lt (tgt := 34) hx hb dX3_merge_27 (by decide) (fun c_27 => ?_) (fun c_27 => ?_)
      · --6T17T27T
        have ho : rL fZ kZ npZ = none := (iO_neg (rL_lt (by omega))).mp c_27
        refine lv_iconst (v := 0) hx hb dX3_merge_34 (by decide) ?_
        refine lv_istore_n (lv' := [(3, .int 0), (0, .ref yZ), (1, .int kZ), (2, .int vZ)]) hx hb dX3_merge_35 rfl hl (by decide) rfl (fun ls hl => ?_)
        refine lv_aload_n hx hb dX3_merge_36 rfl (lv_at hl 1 rfl) ?_
        refine lv_iload_n hx hb dX3_merge_37 rfl (lv_at hl 2 rfl) ?_
        refine lv_iload_n hx hb dX3_merge_38 rfl (lv_at hl 0 rfl) ?_
        refine lv_if_eq (tgt := 57) hx hb dX3_merge_39 (by decide) (fun c_39 => ?_) (fun c_39 => ?_)
        · --6T17T27T39T
          refine lv_iload_n hx hb dX3_merge_57 rfl (lv_at hl 3 rfl) ?_
          refine m_Vv (As := [.int kZ, .int vZ]) (wr := []) (ws2 := fun _ => [(yZ, .inr (3, [.ref akZ, .ref avZ, .ref awZ, .ref aoZ, .ref amZ, .ref lkZ, .ref lvZ, .ref luZ, .int (nI (insN npZ (rL fZ kZ npZ))), .int iwZ, .int imZ, .int ilZ, .int irZ, .int iuZ, .int iaZ, .int 0])), (akZ, .inl (I, 200, .inl (insF fZ npZ kZ (rL fZ kZ npZ)))), (avZ, .inl (I, 200, .inl (insG gZ npZ vZ (rL fZ kZ npZ))))]) ⟨hx, hb, hml, hown, hts⟩ hA hK hP hD hS hl.1 (c_X3_lays l D I J H.size yZ akZ avZ awZ aoZ amZ lkZ lvZ luZ npZ iwZ imZ ilZ irZ iuZ iaZ 0 fZ gZ kZ vZ (by assumption) (by omega)) (cwV 2 hts gX3_merge_X3_lays rfl rfl rfl (by decide +kernel) ⟨Nat.le_of_ble_eq_true rfl, Nat.le_of_ble_eq_true rfl⟩) [0, 1, 2] [] [0, 1, 2] 0 3 rfl rfl rfl rfl rfl (by decide) (by decide) (by decide) (by decide) (fun _ => rfl) rfl rfl (Nat.le_of_ble_eq_true rfl) dX3_merge_58 ⟨(by exact Nat.le_of_ble_eq_true rfl), (by exact Nat.le_of_ble_eq_true rfl)⟩ (fun u_58 H locs hw_58 hP hD hS => ?_)
          clear hw_58
          have hP : va_P D vwCl [(yZ, .inr (3, [.ref akZ, .ref avZ, .ref awZ, .ref aoZ, .ref amZ, .ref lkZ, .ref lvZ, .ref luZ, .int (nI (insN npZ (rL fZ kZ npZ))), .int iwZ, .int imZ, .int ilZ, .int irZ, .int iuZ, .int iaZ, .int 0])), (akZ, .inl (I, 200, .inl (insF fZ npZ kZ (rL fZ kZ npZ)))), (avZ, .inl (I, 200, .inl (insG gZ npZ vZ (rL fZ kZ npZ))))] H := hP
          have hD : va_D A [(yZ, .inr (3, [.ref akZ, .ref avZ, .ref awZ, .ref aoZ, .ref amZ, .ref lkZ, .ref lvZ, .ref luZ, .int (nI (insN npZ (rL fZ kZ npZ))), .int iwZ, .int imZ, .int ilZ, .int irZ, .int iuZ, .int iaZ, .int 0])), (akZ, .inl (I, 200, .inl (insF fZ npZ kZ (rL fZ kZ npZ)))), (avZ, .inl (I, 200, .inl (insG gZ npZ vZ (rL fZ kZ npZ))))] := hD
          rw [ho] at hP hD
          have hP : va_P D vwCl [(yZ, .inr (3, [.ref akZ, .ref avZ, .ref awZ, .ref aoZ, .ref amZ, .ref lkZ, .ref lvZ, .ref luZ, .int (nI (npZ + 1)), .int iwZ, .int imZ, .int ilZ, .int irZ, .int iuZ, .int iaZ, .int 0])), (akZ, .inl (I, 200, .inl (upd fZ npZ kZ))), (avZ, .inl (I, 200, .inl (upd gZ npZ vZ)))] H := hP
          have hD : va_D A [(yZ, .inr (3, [.ref akZ, .ref avZ, .ref awZ, .ref aoZ, .ref amZ, .ref lkZ, .ref lvZ, .ref luZ, .int (nI (npZ + 1)), .int iwZ, .int imZ, .int ilZ, .int irZ, .int iuZ, .int iaZ, .int 0])), (akZ, .inl (I, 200, .inl (upd fZ npZ kZ))), (avZ, .inl (I, 200, .inl (upd gZ npZ vZ)))] := hD
          refine lv_iload_n hx hb dX3_merge_61 rfl (lv_at hl 0 rfl) ?_
          refine lv_if_eq (tgt := 84) hx hb dX3_merge_62 (by decide) (fun c_62 => ?_) (fun c_62 => ?_)
          · --6T17T27T39T62T
            have hlt := hnew ho
            refine lv_aload_n hx hb dX3_merge_84 rfl (lv_at hl 1 rfl) ?_
            refine lv_iload_n hx hb dX3_merge_85 rfl (lv_at hl 2 rfl) ?_
            refine m_Vl (As := [.int kZ]) (wr := []) (ws2 := fun _ => [(yZ, .inr (3, [.ref akZ, .ref avZ, .ref awZ, .ref aoZ, .ref amZ, .ref lkZ, .ref lvZ, .ref luZ, .int (nI (npZ + 1)), .int iwZ, .int imZ, .int ilZ, .int irZ, .int iuZ, .int iaZ, .int 0])), (akZ, .inl (I, 200, .inl (upd fZ npZ kZ))), (avZ, .inl (I, 200, .inl (upd gZ npZ vZ)))]) ⟨hx, hb, hml, hown, hts⟩ hA hK hP hD hS hl.1 (c_X3_now l D I J H.size yZ akZ avZ awZ aoZ amZ lkZ lvZ luZ (npZ + 1) iwZ imZ ilZ irZ iuZ iaZ 0 (upd fZ npZ kZ) (upd gZ npZ vZ) kZ (by omega)) (cwV 1 hts gX3_merge_X3_now rfl rfl rfl (by decide +kernel) ⟨Nat.le_of_ble_eq_true rfl, Nat.le_of_ble_eq_true rfl⟩) [0, 1, 2] [] [0, 1, 2] 0 3 rfl rfl rfl rfl rfl (by decide) (by decide) (by decide) (by decide) (fun _ => rfl) rfl rfl (Nat.le_of_ble_eq_true rfl) dX3_merge_86 ⟨(by exact Nat.le_of_ble_eq_true rfl), (by exact Nat.le_of_ble_eq_true rfl)⟩ (fun r_86 u_86 H locs hw_86 hP hD hS => ?_)
            try dsimp only at hw_86
            have hP : va_P D vwCl [(yZ, .inr (3, [.ref akZ, .ref avZ, .ref awZ, .ref aoZ, .ref amZ, .ref lkZ, .ref lvZ, .ref luZ, .int (nI (npZ + 1)), .int iwZ, .int imZ, .int ilZ, .int irZ, .int iuZ, .int iaZ, .int 0])), (akZ, .inl (I, 200, .inl (upd fZ npZ kZ))), (avZ, .inl (I, 200, .inl (upd gZ npZ vZ)))] H := hP
            have hD : va_D A [(yZ, .inr (3, [.ref akZ, .ref avZ, .ref awZ, .ref aoZ, .ref amZ, .ref lkZ, .ref lvZ, .ref luZ, .int (nI (npZ + 1)), .int iwZ, .int imZ, .int ilZ, .int irZ, .int iuZ, .int iaZ, .int 0])), (akZ, .inl (I, 200, .inl (upd fZ npZ kZ))), (avZ, .inl (I, 200, .inl (upd gZ npZ vZ)))] := hD
            subst hw_86
            refine m_topl (y := (vZ.toInt64)) (by rw [rL_new]; show (upd gZ npZ vZ npZ).toInt64 = _; simp [upd]) ?_
            have hEq : [(yZ, .inr (3, [.ref akZ, .ref avZ, .ref awZ, .ref aoZ, .ref amZ, .ref lkZ, .ref lvZ, .ref luZ, .int (nI (npZ + 1)), .int iwZ, .int imZ, .int ilZ, .int irZ, .int iuZ, .int iaZ, .int 0])), (akZ, .inl (I, 200, .inl (upd fZ npZ kZ))), (avZ, .inl (I, 200, .inl (upd gZ npZ vZ)))] = ([(yZ, .inr (3, [.ref akZ, .ref avZ, .ref awZ, .ref aoZ, .ref amZ, .ref lkZ, .ref lvZ, .ref luZ, .int (nI (mgN npZ gZ vZ (rL fZ kZ npZ))), .int iwZ, .int imZ, .int ilZ, .int irZ, .int iuZ, .int iaZ, .int 0])), (akZ, .inl (I, 200, .inl (mgF fZ npZ kZ gZ vZ (rL fZ kZ npZ)))), (avZ, .inl (I, 200, .inl (mgG gZ npZ vZ (rL fZ kZ npZ))))] : va_W) := (by rw [ho]; rfl)
            rw [hEq] at hP hD
            refine m_lret () hx hb hr hlocks hP hD hS dX3_merge_89 (by first | exact Nat.le_of_ble_eq_true rfl | omega) (by first | exact Nat.le_of_ble_eq_true rfl | omega) ?_
            rw [ho]; rfl
          · --6T17T27T39T62F
            exact absurd rfl c_62
        · --6T17T27T39F
          exact absurd rfl c_39
      · --6T17T27F
        obtain ⟨jZ, ho⟩ := iO_lts c_27
        have hj := (rL_some ho).1
        refine lv_iconst (v := 1) hx hb dX3_merge_30 (by decide) ?_
        refine lv_goto (tgt := 35) hx hb dX3_merge_31 (by decide) ?_
        refine lv_istore_n (lv' := [(3, .int 1), (0, .ref yZ), (1, .int kZ), (2, .int vZ)]) hx hb dX3_merge_35 rfl hl (by decide) rfl (fun ls hl => ?_)
        refine lv_aload_n hx hb dX3_merge_36 rfl (lv_at hl 1 rfl) ?_
        refine lv_iload_n hx hb dX3_merge_37 rfl (lv_at hl 2 rfl) ?_
        refine lv_iload_n hx hb dX3_merge_38 rfl (lv_at hl 0 rfl) ?_
        refine lv_if_eq (tgt := 57) hx hb dX3_merge_39 (by decide) (fun c_39 => ?_) (fun c_39 => ?_)
        · --6T17T27F39T
          exact absurd c_39 (by decide)
        · --6T17T27F39F
          refine lv_aload_n hx hb dX3_merge_42 rfl (lv_at hl 1 rfl) ?_
          refine va_get (D := D) (ci := 3) (v := .ref avZ) (C := RX3) (T := TX3) (N := 16) hx hb hts (fun _ h => List.mem_cons_of_mem _ (List.mem_append_right _ h)) hown hK hP 0 rfl rfl 1 (by decide) (hts (.fieldLink RX3 13 "MapsByUseModel" "values" "[I") (List.mem_of_getElem? (i := 1) (by decide +kernel))) (fun _ h9 => h9) rfl dX3_merge_43 ?_
          refine lv_aload_n hx hb dX3_merge_46 rfl (lv_at hl 1 rfl) ?_
          refine lv_iload_n hx hb dX3_merge_47 rfl (lv_at hl 2 rfl) ?_
          refine m_Vi (As := [.int kZ]) (wr := [(avZ, .inl (I, 200, .inl gZ))]) (ws2 := fun _ => [(yZ, .inr (3, [.ref akZ, .ref avZ, .ref awZ, .ref aoZ, .ref amZ, .ref lkZ, .ref lvZ, .ref luZ, .int (nI npZ), .int iwZ, .int imZ, .int ilZ, .int irZ, .int iuZ, .int iaZ, .int 0])), (akZ, .inl (I, 200, .inl fZ)), (avZ, .inl (I, 200, .inl gZ))]) ⟨hx, hb, hml, hown, hts⟩ hA hK hP hD hS hl.1 (c_X3_at l D I J H.size yZ akZ avZ awZ aoZ amZ lkZ lvZ luZ npZ iwZ imZ ilZ irZ iuZ iaZ 0 fZ kZ (by omega)) (cwV 1 hts gX3_merge_X3_at rfl rfl rfl (by decide +kernel) ⟨Nat.le_of_ble_eq_true rfl, Nat.le_of_ble_eq_true rfl⟩) [0, 1] [2] [1, 2, 0] 0 3 rfl rfl rfl rfl rfl (by decide) (by decide) (by decide) (by decide) (fun _ => rfl) rfl rfl (Nat.le_of_ble_eq_true rfl) dX3_merge_48 ⟨(by exact Nat.le_of_ble_eq_true rfl), (by exact Nat.le_of_ble_eq_true rfl)⟩ (fun r_48 u_48 H locs hw_48 hP hD hS => ?_)
          try dsimp only at hw_48
          have hP : va_P D vwCl [(yZ, .inr (3, [.ref akZ, .ref avZ, .ref awZ, .ref aoZ, .ref amZ, .ref lkZ, .ref lvZ, .ref luZ, .int (nI npZ), .int iwZ, .int imZ, .int ilZ, .int irZ, .int iuZ, .int iaZ, .int 0])), (akZ, .inl (I, 200, .inl fZ)), (avZ, .inl (I, 200, .inl gZ))] H := hP
          have hD : va_D A [(yZ, .inr (3, [.ref akZ, .ref avZ, .ref awZ, .ref aoZ, .ref amZ, .ref lkZ, .ref lvZ, .ref luZ, .int (nI npZ), .int iwZ, .int imZ, .int ilZ, .int irZ, .int iuZ, .int iaZ, .int 0])), (akZ, .inl (I, 200, .inl fZ)), (avZ, .inl (I, 200, .inl gZ))] := hD
          subst hw_48
          refine m_topi (y := (nI jZ)) (by rw [ho]; rfl) ?_
          refine m_iald (D := D) (cl := vwCl) hx hb hK hP 2 0 (j := jZ) rfl rfl (by rfl) (by omega) (by omega) dX3_merge_51 ?_
          refine lv_iload_n hx hb dX3_merge_52 rfl (lv_at hl 3 rfl) ?_
          refine lv_iadd hx hb dX3_merge_53 ?_
          refine m_topi (y := (gZ jZ + vZ)) (by rfl) ?_
          refine lv_goto (tgt := 58) hx hb dX3_merge_54 (by decide) ?_
          refine m_Vv (As := [.int kZ, .int (gZ jZ + vZ)]) (wr := []) (ws2 := fun _ => [(yZ, .inr (3, [.ref akZ, .ref avZ, .ref awZ, .ref aoZ, .ref amZ, .ref lkZ, .ref lvZ, .ref luZ, .int (nI (insN npZ (rL fZ kZ npZ))), .int iwZ, .int imZ, .int ilZ, .int irZ, .int iuZ, .int iaZ, .int 0])), (akZ, .inl (I, 200, .inl (insF fZ npZ kZ (rL fZ kZ npZ)))), (avZ, .inl (I, 200, .inl (insG gZ npZ (gZ jZ + vZ) (rL fZ kZ npZ))))]) ⟨hx, hb, hml, hown, hts⟩ hA hK hP hD hS hl.1 (c_X3_lays l D I J H.size yZ akZ avZ awZ aoZ amZ lkZ lvZ luZ npZ iwZ imZ ilZ irZ iuZ iaZ 0 fZ gZ kZ (gZ jZ + vZ) (by assumption) (by omega)) (cwV 2 hts gX3_merge_X3_lays rfl rfl rfl (by decide +kernel) ⟨Nat.le_of_ble_eq_true rfl, Nat.le_of_ble_eq_true rfl⟩) [0, 1, 2] [] [0, 1, 2] 0 3 rfl rfl rfl rfl rfl (by decide) (by decide) (by decide) (by decide) (fun _ => rfl) rfl rfl (Nat.le_of_ble_eq_true rfl) dX3_merge_58 ⟨(by exact Nat.le_of_ble_eq_true rfl), (by exact Nat.le_of_ble_eq_true rfl)⟩ (fun u_58 H locs hw_58 hP hD hS => ?_)
          clear hw_58
          have hP : va_P D vwCl [(yZ, .inr (3, [.ref akZ, .ref avZ, .ref awZ, .ref aoZ, .ref amZ, .ref lkZ, .ref lvZ, .ref luZ, .int (nI (insN npZ (rL fZ kZ npZ))), .int iwZ, .int imZ, .int ilZ, .int irZ, .int iuZ, .int iaZ, .int 0])), (akZ, .inl (I, 200, .inl (insF fZ npZ kZ (rL fZ kZ npZ)))), (avZ, .inl (I, 200, .inl (insG gZ npZ (gZ jZ + vZ) (rL fZ kZ npZ))))] H := hP
          have hD : va_D A [(yZ, .inr (3, [.ref akZ, .ref avZ, .ref awZ, .ref aoZ, .ref amZ, .ref lkZ, .ref lvZ, .ref luZ, .int (nI (insN npZ (rL fZ kZ npZ))), .int iwZ, .int imZ, .int ilZ, .int irZ, .int iuZ, .int iaZ, .int 0])), (akZ, .inl (I, 200, .inl (insF fZ npZ kZ (rL fZ kZ npZ)))), (avZ, .inl (I, 200, .inl (insG gZ npZ (gZ jZ + vZ) (rL fZ kZ npZ))))] := hD
          rw [ho] at hP hD
          have hP : va_P D vwCl [(yZ, .inr (3, [.ref akZ, .ref avZ, .ref awZ, .ref aoZ, .ref amZ, .ref lkZ, .ref lvZ, .ref luZ, .int (nI npZ), .int iwZ, .int imZ, .int ilZ, .int irZ, .int iuZ, .int iaZ, .int 0])), (akZ, .inl (I, 200, .inl fZ)), (avZ, .inl (I, 200, .inl (upd gZ jZ (gZ jZ + vZ))))] H := hP
          have hD : va_D A [(yZ, .inr (3, [.ref akZ, .ref avZ, .ref awZ, .ref aoZ, .ref amZ, .ref lkZ, .ref lvZ, .ref luZ, .int (nI npZ), .int iwZ, .int imZ, .int ilZ, .int irZ, .int iuZ, .int iaZ, .int 0])), (akZ, .inl (I, 200, .inl fZ)), (avZ, .inl (I, 200, .inl (upd gZ jZ (gZ jZ + vZ))))] := hD
          refine lv_iload_n hx hb dX3_merge_61 rfl (lv_at hl 0 rfl) ?_
          refine lv_if_eq (tgt := 84) hx hb dX3_merge_62 (by decide) (fun c_62 => ?_) (fun c_62 => ?_)
          · --6T17T27F39F62T
            exact absurd c_62 (by decide)
          · --6T17T27F39F62F
            refine lv_aload_n hx hb dX3_merge_65 rfl (lv_at hl 1 rfl) ?_
            refine lv_iload_n hx hb dX3_merge_66 rfl (lv_at hl 2 rfl) ?_
            refine m_Vl (As := [.int kZ]) (wr := []) (ws2 := fun _ => [(yZ, .inr (3, [.ref akZ, .ref avZ, .ref awZ, .ref aoZ, .ref amZ, .ref lkZ, .ref lvZ, .ref luZ, .int (nI npZ), .int iwZ, .int imZ, .int ilZ, .int irZ, .int iuZ, .int iaZ, .int 0])), (akZ, .inl (I, 200, .inl fZ)), (avZ, .inl (I, 200, .inl (upd gZ jZ (gZ jZ + vZ))))]) ⟨hx, hb, hml, hown, hts⟩ hA hK hP hD hS hl.1 (c_X3_now l D I J H.size yZ akZ avZ awZ aoZ amZ lkZ lvZ luZ npZ iwZ imZ ilZ irZ iuZ iaZ 0 fZ (upd gZ jZ (gZ jZ + vZ)) kZ (by omega)) (cwV 1 hts gX3_merge_X3_now rfl rfl rfl (by decide +kernel) ⟨Nat.le_of_ble_eq_true rfl, Nat.le_of_ble_eq_true rfl⟩) [0, 1, 2] [] [0, 1, 2] 0 3 rfl rfl rfl rfl rfl (by decide) (by decide) (by decide) (by decide) (fun _ => rfl) rfl rfl (Nat.le_of_ble_eq_true rfl) dX3_merge_67 ⟨(by exact Nat.le_of_ble_eq_true rfl), (by exact Nat.le_of_ble_eq_true rfl)⟩ (fun r_67 u_67 H locs hw_67 hP hD hS => ?_)
            try dsimp only at hw_67
            have hP : va_P D vwCl [(yZ, .inr (3, [.ref akZ, .ref avZ, .ref awZ, .ref aoZ, .ref amZ, .ref lkZ, .ref lvZ, .ref luZ, .int (nI npZ), .int iwZ, .int imZ, .int ilZ, .int irZ, .int iuZ, .int iaZ, .int 0])), (akZ, .inl (I, 200, .inl fZ)), (avZ, .inl (I, 200, .inl (upd gZ jZ (gZ jZ + vZ))))] H := hP
            have hD : va_D A [(yZ, .inr (3, [.ref akZ, .ref avZ, .ref awZ, .ref aoZ, .ref amZ, .ref lkZ, .ref lvZ, .ref luZ, .int (nI npZ), .int iwZ, .int imZ, .int ilZ, .int irZ, .int iuZ, .int iaZ, .int 0])), (akZ, .inl (I, 200, .inl fZ)), (avZ, .inl (I, 200, .inl (upd gZ jZ (gZ jZ + vZ))))] := hD
            subst hw_67
            refine m_topl (y := ((gZ jZ + vZ).toInt64)) (by rw [ho]; show (upd gZ jZ (gZ jZ + vZ) jZ).toInt64 = _; simp [upd]) ?_
            refine lv_lconst (v := 0) hx hb dX3_merge_70 (by decide) ?_
            refine W.lcmp hx hb dX3_merge_71 ?_
            refine lv_if_ne (tgt := 84) hx hb dX3_merge_72 (by decide) (fun c_72 => ?_) (fun c_72 => ?_)
            · --6T17T27F39F62F72T
              have hz : ¬ gZ jZ + vZ = 0 := fun q9 => c_72 (lg_cmp_0.mpr (i64_0.mpr q9))
              refine lv_aload_n hx hb dX3_merge_84 rfl (lv_at hl 1 rfl) ?_
              refine lv_iload_n hx hb dX3_merge_85 rfl (lv_at hl 2 rfl) ?_
              refine m_Vl (As := [.int kZ]) (wr := []) (ws2 := fun _ => [(yZ, .inr (3, [.ref akZ, .ref avZ, .ref awZ, .ref aoZ, .ref amZ, .ref lkZ, .ref lvZ, .ref luZ, .int (nI npZ), .int iwZ, .int imZ, .int ilZ, .int irZ, .int iuZ, .int iaZ, .int 0])), (akZ, .inl (I, 200, .inl fZ)), (avZ, .inl (I, 200, .inl (upd gZ jZ (gZ jZ + vZ))))]) ⟨hx, hb, hml, hown, hts⟩ hA hK hP hD hS hl.1 (c_X3_now l D I J H.size yZ akZ avZ awZ aoZ amZ lkZ lvZ luZ npZ iwZ imZ ilZ irZ iuZ iaZ 0 fZ (upd gZ jZ (gZ jZ + vZ)) kZ (by omega)) (cwV 1 hts gX3_merge_X3_now rfl rfl rfl (by decide +kernel) ⟨Nat.le_of_ble_eq_true rfl, Nat.le_of_ble_eq_true rfl⟩) [0, 1, 2] [] [0, 1, 2] 0 3 rfl rfl rfl rfl rfl (by decide) (by decide) (by decide) (by decide) (fun _ => rfl) rfl rfl (Nat.le_of_ble_eq_true rfl) dX3_merge_86 ⟨(by exact Nat.le_of_ble_eq_true rfl), (by exact Nat.le_of_ble_eq_true rfl)⟩ (fun r_86 u_86 H locs hw_86 hP hD hS => ?_)
              try dsimp only at hw_86
              have hP : va_P D vwCl [(yZ, .inr (3, [.ref akZ, .ref avZ, .ref awZ, .ref aoZ, .ref amZ, .ref lkZ, .ref lvZ, .ref luZ, .int (nI npZ), .int iwZ, .int imZ, .int ilZ, .int irZ, .int iuZ, .int iaZ, .int 0])), (akZ, .inl (I, 200, .inl fZ)), (avZ, .inl (I, 200, .inl (upd gZ jZ (gZ jZ + vZ))))] H := hP
              have hD : va_D A [(yZ, .inr (3, [.ref akZ, .ref avZ, .ref awZ, .ref aoZ, .ref amZ, .ref lkZ, .ref lvZ, .ref luZ, .int (nI npZ), .int iwZ, .int imZ, .int ilZ, .int irZ, .int iuZ, .int iaZ, .int 0])), (akZ, .inl (I, 200, .inl fZ)), (avZ, .inl (I, 200, .inl (upd gZ jZ (gZ jZ + vZ))))] := hD
              subst hw_86
              refine m_topl (y := ((gZ jZ + vZ).toInt64)) (by rw [ho]; show (upd gZ jZ (gZ jZ + vZ) jZ).toInt64 = _; simp [upd]) ?_
              have hEq : [(yZ, .inr (3, [.ref akZ, .ref avZ, .ref awZ, .ref aoZ, .ref amZ, .ref lkZ, .ref lvZ, .ref luZ, .int (nI npZ), .int iwZ, .int imZ, .int ilZ, .int irZ, .int iuZ, .int iaZ, .int 0])), (akZ, .inl (I, 200, .inl fZ)), (avZ, .inl (I, 200, .inl (upd gZ jZ (gZ jZ + vZ))))] = ([(yZ, .inr (3, [.ref akZ, .ref avZ, .ref awZ, .ref aoZ, .ref amZ, .ref lkZ, .ref lvZ, .ref luZ, .int (nI (mgN npZ gZ vZ (rL fZ kZ npZ))), .int iwZ, .int imZ, .int ilZ, .int irZ, .int iuZ, .int iaZ, .int 0])), (akZ, .inl (I, 200, .inl (mgF fZ npZ kZ gZ vZ (rL fZ kZ npZ)))), (avZ, .inl (I, 200, .inl (mgG gZ npZ vZ (rL fZ kZ npZ))))] : va_W) := (by rw [ho]; simp [mgN, mgF, mgG, hz])
              rw [hEq] at hP hD
              refine m_lret () hx hb hr hlocks hP hD hS dX3_merge_89 (by first | exact Nat.le_of_ble_eq_true rfl | omega) (by first | exact Nat.le_of_ble_eq_true rfl | omega) ?_
              rw [ho]; simp [mrgA, hz]
            · --6T17T27F39F62F72F
              refine lv_aload_n hx hb dX3_merge_75 rfl (lv_at hl 1 rfl) ?_
              refine lv_aload_n hx hb dX3_merge_76 rfl (lv_at hl 1 rfl) ?_
              refine lv_iload_n hx hb dX3_merge_77 rfl (lv_at hl 2 rfl) ?_
              refine m_Vi (As := [.int kZ]) (wr := [(avZ, .inl (I, 200, .inl (upd gZ jZ (gZ jZ + vZ))))]) (ws2 := fun _ => [(yZ, .inr (3, [.ref akZ, .ref avZ, .ref awZ, .ref aoZ, .ref amZ, .ref lkZ, .ref lvZ, .ref luZ, .int (nI npZ), .int iwZ, .int imZ, .int ilZ, .int irZ, .int iuZ, .int iaZ, .int 0])), (akZ, .inl (I, 200, .inl fZ)), (avZ, .inl (I, 200, .inl (upd gZ jZ (gZ jZ + vZ))))]) ⟨hx, hb, hml, hown, hts⟩ hA hK hP hD hS hl.1 (c_X3_at l D I J H.size yZ akZ avZ awZ aoZ amZ lkZ lvZ luZ npZ iwZ imZ ilZ irZ iuZ iaZ 0 fZ kZ (by omega)) (cwV 1 hts gX3_merge_X3_at rfl rfl rfl (by decide +kernel) ⟨Nat.le_of_ble_eq_true rfl, Nat.le_of_ble_eq_true rfl⟩) [0, 1] [2] [1, 2, 0] 0 3 rfl rfl rfl rfl rfl (by decide) (by decide) (by decide) (by decide) (fun _ => rfl) rfl rfl (Nat.le_of_ble_eq_true rfl) dX3_merge_78 ⟨(by exact Nat.le_of_ble_eq_true rfl), (by exact Nat.le_of_ble_eq_true rfl)⟩ (fun r_78 u_78 H locs hw_78 hP hD hS => ?_)
              try dsimp only at hw_78
              have hP : va_P D vwCl [(yZ, .inr (3, [.ref akZ, .ref avZ, .ref awZ, .ref aoZ, .ref amZ, .ref lkZ, .ref lvZ, .ref luZ, .int (nI npZ), .int iwZ, .int imZ, .int ilZ, .int irZ, .int iuZ, .int iaZ, .int 0])), (akZ, .inl (I, 200, .inl fZ)), (avZ, .inl (I, 200, .inl (upd gZ jZ (gZ jZ + vZ))))] H := hP
              have hD : va_D A [(yZ, .inr (3, [.ref akZ, .ref avZ, .ref awZ, .ref aoZ, .ref amZ, .ref lkZ, .ref lvZ, .ref luZ, .int (nI npZ), .int iwZ, .int imZ, .int ilZ, .int irZ, .int iuZ, .int iaZ, .int 0])), (akZ, .inl (I, 200, .inl fZ)), (avZ, .inl (I, 200, .inl (upd gZ jZ (gZ jZ + vZ))))] := hD
              subst hw_78
              refine m_topi (y := (nI jZ)) (by rw [ho]; rfl) ?_
              refine m_Vv (As := [.int (nI jZ)]) (wr := []) (ws2 := fun _ => [(yZ, .inr (3, [.ref akZ, .ref avZ, .ref awZ, .ref aoZ, .ref amZ, .ref lkZ, .ref lvZ, .ref luZ, .int (nI (npZ - 1)), .int iwZ, .int imZ, .int ilZ, .int irZ, .int iuZ, .int iaZ, .int 0])), (akZ, .inl (I, 200, .inl (swF fZ npZ jZ))), (avZ, .inl (I, 200, .inl (swF (upd gZ jZ (gZ jZ + vZ)) npZ jZ)))]) ⟨hx, hb, hml, hown, hts⟩ hA hK hP hD hS hl.1 (c_X3_drops l D I J H.size yZ akZ avZ awZ aoZ amZ lkZ lvZ luZ npZ iwZ imZ ilZ irZ iuZ iaZ 0 fZ (upd gZ jZ (gZ jZ + vZ)) jZ (by assumption) (by omega)) (cwV 1 hts gX3_merge_X3_drops rfl rfl rfl (by decide +kernel) ⟨Nat.le_of_ble_eq_true rfl, Nat.le_of_ble_eq_true rfl⟩) [0, 1, 2] [] [0, 1, 2] 0 3 rfl rfl rfl rfl rfl (by decide) (by decide) (by decide) (by decide) (fun _ => rfl) rfl rfl (Nat.le_of_ble_eq_true rfl) dX3_merge_81 ⟨(by exact Nat.le_of_ble_eq_true rfl), (by exact Nat.le_of_ble_eq_true rfl)⟩ (fun u_81 H locs hw_81 hP hD hS => ?_)
              clear hw_81
              have hP : va_P D vwCl [(yZ, .inr (3, [.ref akZ, .ref avZ, .ref awZ, .ref aoZ, .ref amZ, .ref lkZ, .ref lvZ, .ref luZ, .int (nI (npZ - 1)), .int iwZ, .int imZ, .int ilZ, .int irZ, .int iuZ, .int iaZ, .int 0])), (akZ, .inl (I, 200, .inl (swF fZ npZ jZ))), (avZ, .inl (I, 200, .inl (swF (upd gZ jZ (gZ jZ + vZ)) npZ jZ)))] H := hP
              have hD : va_D A [(yZ, .inr (3, [.ref akZ, .ref avZ, .ref awZ, .ref aoZ, .ref amZ, .ref lkZ, .ref lvZ, .ref luZ, .int (nI (npZ - 1)), .int iwZ, .int imZ, .int ilZ, .int irZ, .int iuZ, .int iaZ, .int 0])), (akZ, .inl (I, 200, .inl (swF fZ npZ jZ))), (avZ, .inl (I, 200, .inl (swF (upd gZ jZ (gZ jZ + vZ)) npZ jZ)))] := hD
              have hz : gZ jZ + vZ = 0 := i64_0.mp (lg_cmp_0.mp c_72)
              have hsw := sw_none hinj ho
              refine lv_aload_n hx hb dX3_merge_84 rfl (lv_at hl 1 rfl) ?_
              refine lv_iload_n hx hb dX3_merge_85 rfl (lv_at hl 2 rfl) ?_
              refine m_Vl (As := [.int kZ]) (wr := []) (ws2 := fun _ => [(yZ, .inr (3, [.ref akZ, .ref avZ, .ref awZ, .ref aoZ, .ref amZ, .ref lkZ, .ref lvZ, .ref luZ, .int (nI (npZ - 1)), .int iwZ, .int imZ, .int ilZ, .int irZ, .int iuZ, .int iaZ, .int 0])), (akZ, .inl (I, 200, .inl (swF fZ npZ jZ))), (avZ, .inl (I, 200, .inl (swF (upd gZ jZ (gZ jZ + vZ)) npZ jZ)))]) ⟨hx, hb, hml, hown, hts⟩ hA hK hP hD hS hl.1 (c_X3_now l D I J H.size yZ akZ avZ awZ aoZ amZ lkZ lvZ luZ (npZ - 1) iwZ imZ ilZ irZ iuZ iaZ 0 (swF fZ npZ jZ) (swF (upd gZ jZ (gZ jZ + vZ)) npZ jZ) kZ (by omega)) (cwV 1 hts gX3_merge_X3_now rfl rfl rfl (by decide +kernel) ⟨Nat.le_of_ble_eq_true rfl, Nat.le_of_ble_eq_true rfl⟩) [0, 1, 2] [] [0, 1, 2] 0 3 rfl rfl rfl rfl rfl (by decide) (by decide) (by decide) (by decide) (fun _ => rfl) rfl rfl (Nat.le_of_ble_eq_true rfl) dX3_merge_86 ⟨(by exact Nat.le_of_ble_eq_true rfl), (by exact Nat.le_of_ble_eq_true rfl)⟩ (fun r_86 u_86 H locs hw_86 hP hD hS => ?_)
              try dsimp only at hw_86
              have hP : va_P D vwCl [(yZ, .inr (3, [.ref akZ, .ref avZ, .ref awZ, .ref aoZ, .ref amZ, .ref lkZ, .ref lvZ, .ref luZ, .int (nI (npZ - 1)), .int iwZ, .int imZ, .int ilZ, .int irZ, .int iuZ, .int iaZ, .int 0])), (akZ, .inl (I, 200, .inl (swF fZ npZ jZ))), (avZ, .inl (I, 200, .inl (swF (upd gZ jZ (gZ jZ + vZ)) npZ jZ)))] H := hP
              have hD : va_D A [(yZ, .inr (3, [.ref akZ, .ref avZ, .ref awZ, .ref aoZ, .ref amZ, .ref lkZ, .ref lvZ, .ref luZ, .int (nI (npZ - 1)), .int iwZ, .int imZ, .int ilZ, .int irZ, .int iuZ, .int iaZ, .int 0])), (akZ, .inl (I, 200, .inl (swF fZ npZ jZ))), (avZ, .inl (I, 200, .inl (swF (upd gZ jZ (gZ jZ + vZ)) npZ jZ)))] := hD
              subst hw_86
              refine m_topl (y := 4294967296) (by rw [hsw]; rfl) ?_
              have hEq : [(yZ, .inr (3, [.ref akZ, .ref avZ, .ref awZ, .ref aoZ, .ref amZ, .ref lkZ, .ref lvZ, .ref luZ, .int (nI (npZ - 1)), .int iwZ, .int imZ, .int ilZ, .int irZ, .int iuZ, .int iaZ, .int 0])), (akZ, .inl (I, 200, .inl (swF fZ npZ jZ))), (avZ, .inl (I, 200, .inl (swF (upd gZ jZ (gZ jZ + vZ)) npZ jZ)))] = ([(yZ, .inr (3, [.ref akZ, .ref avZ, .ref awZ, .ref aoZ, .ref amZ, .ref lkZ, .ref lvZ, .ref luZ, .int (nI (mgN npZ gZ vZ (rL fZ kZ npZ))), .int iwZ, .int imZ, .int ilZ, .int irZ, .int iuZ, .int iaZ, .int 0])), (akZ, .inl (I, 200, .inl (mgF fZ npZ kZ gZ vZ (rL fZ kZ npZ)))), (avZ, .inl (I, 200, .inl (mgG gZ npZ vZ (rL fZ kZ npZ))))] : va_W) := (by rw [ho]; simp [mgN, mgF, mgG, hz])
              rw [hEq] at hP hD
              refine m_lret () hx hb hr hlocks hP hD hS dX3_merge_89 (by first | exact Nat.le_of_ble_eq_true rfl | omega) (by first | exact Nat.le_of_ble_eq_true rfl | omega) ?_
              rw [ho]; simp [mrgA, hz]
    · --6T17F
      exact absurd (by decide) c_17
  · --6F
    exact absurd (by rw [hfull]; rfl) c_6

set_option maxHeartbeats 4000000 in
set_option maxRecDepth 100000 in
theorem c_X3_computeIfAbsent (l : Launch) (D : va_G) (I J : ClassId) (sz : Nat) (yZ : Nat) (akZ : Nat) (avZ : Nat) (awZ : Nat) (aoZ : Nat) (amZ : Nat) (lkZ : Nat) (lvZ : Nat) (luZ : Nat) (npZ : Nat) (iwZ : Int32) (imZ : Int32) (ilZ : Int32) (irZ : Int32) (iuZ : Int32) (iaZ : Int32) (icZ : Int32) (fZ : Nat → Int32) (gZ : Nat → Int32) (kZ : Int32) (hfull : fullB (rL fZ kZ npZ) npZ = false) (hnp : npZ ≤ 200) : mCl l yX3_computeIfAbsent wsX3_computeIfAbsent 3 68 0 0 D I J [.ref yZ, .int kZ] [(yZ, .inr (3, [.ref akZ, .ref avZ, .ref awZ, .ref aoZ, .ref amZ, .ref lkZ, .ref lvZ, .ref luZ, .int (nI npZ), .int iwZ, .int imZ, .int ilZ, .int irZ, .int iuZ, .int iaZ, .int icZ])), (akZ, .inl (I, 200, .inl fZ)), (avZ, .inl (I, 200, .inl gZ))] sz (fun (x : Int64) (u : Unit) => x = (cpaA gZ kZ (rL fZ kZ npZ))) (fun (u : Unit) => [(yZ, .inr (3, [.ref akZ, .ref avZ, .ref awZ, .ref aoZ, .ref amZ, .ref lkZ, .ref lvZ, .ref luZ, .int (nI (cpaN npZ kZ (rL fZ kZ npZ))), .int iwZ, .int imZ, .int ilZ, .int irZ, .int iuZ, .int iaZ, .int 0])), (akZ, .inl (I, 200, .inl (cpaF fZ npZ kZ (rL fZ kZ npZ)))), (avZ, .inl (I, 200, .inl (cpaG gZ npZ kZ (rL fZ kZ npZ))))]) := by
  refine m_ofl (cc := cX3_computeIfAbsent) (maxL := 2) (ret := (some .long)) (by decide) rfl (Nat.le_of_ble_eq_true rfl) ?_
  intro p e s m args below meth c A ls hx hb hr hlocks hml hts hown hin hK hP hD hA hS hl
  have hl : lv_has ls 2 [(0, .ref yZ), (1, .int kZ)] := hl
  have hP : va_P D vwCl [(yZ, .inr (3, [.ref akZ, .ref avZ, .ref awZ, .ref aoZ, .ref amZ, .ref lkZ, .ref lvZ, .ref luZ, .int (nI npZ), .int iwZ, .int imZ, .int ilZ, .int irZ, .int iuZ, .int iaZ, .int icZ])), (akZ, .inl (I, 200, .inl fZ)), (avZ, .inl (I, 200, .inl gZ))] s.heap := hP
  have hD : va_D A [(yZ, .inr (3, [.ref akZ, .ref avZ, .ref awZ, .ref aoZ, .ref amZ, .ref lkZ, .ref lvZ, .ref luZ, .int (nI npZ), .int iwZ, .int imZ, .int ilZ, .int irZ, .int iuZ, .int iaZ, .int icZ])), (akZ, .inl (I, 200, .inl fZ)), (avZ, .inl (I, 200, .inl gZ))] := hD
  have hnew : rL fZ kZ npZ = none → npZ < 200 := fun q => by
    rcases Nat.lt_or_ge npZ 200 with h | h
    · exact h
    · have e : npZ = 200 := by omega
      rw [q, e] at hfull
      exact absurd hfull (by decide)
  refine lv_aload_n hx hb dX3_computeIfAbsent_0 rfl (lv_at hl 0 rfl) ?_
  refine lv_aload_n hx hb dX3_computeIfAbsent_1 rfl (lv_at hl 0 rfl) ?_
  refine lv_iload_n hx hb dX3_computeIfAbsent_2 rfl (lv_at hl 1 rfl) ?_
  refine m_Vi (As := [.int kZ]) (wr := [(avZ, .inl (I, 200, .inl gZ))]) (ws2 := fun _ => [(yZ, .inr (3, [.ref akZ, .ref avZ, .ref awZ, .ref aoZ, .ref amZ, .ref lkZ, .ref lvZ, .ref luZ, .int (nI npZ), .int iwZ, .int imZ, .int ilZ, .int irZ, .int iuZ, .int iaZ, .int icZ])), (akZ, .inl (I, 200, .inl fZ)), (avZ, .inl (I, 200, .inl gZ))]) ⟨hx, hb, hml, hown, hts⟩ hA hK hP hD hS hl.1 (c_X3_isFull l D I J s.heap.size yZ akZ avZ awZ aoZ amZ lkZ lvZ luZ npZ iwZ imZ ilZ irZ iuZ iaZ icZ fZ kZ (by omega)) (cwV 1 hts gX3_computeIfAbsent_X3_isFull rfl rfl rfl (by decide +kernel) ⟨Nat.le_of_ble_eq_true rfl, Nat.le_of_ble_eq_true rfl⟩) [0, 1] [2] [1, 2, 0] 0 3 rfl rfl rfl rfl rfl (by decide) (by decide) (by decide) (by decide) (fun _ => rfl) rfl rfl (Nat.le_of_ble_eq_true rfl) dX3_computeIfAbsent_3 ⟨(by exact Nat.le_of_ble_eq_true rfl), (by exact Nat.le_of_ble_eq_true rfl)⟩ (fun r_3 u_3 H locs hw_3 hP hD hS => ?_)
  try dsimp only at hw_3
  have hP : va_P D vwCl [(yZ, .inr (3, [.ref akZ, .ref avZ, .ref awZ, .ref aoZ, .ref amZ, .ref lkZ, .ref lvZ, .ref luZ, .int (nI npZ), .int iwZ, .int imZ, .int ilZ, .int irZ, .int iuZ, .int iaZ, .int icZ])), (akZ, .inl (I, 200, .inl fZ)), (avZ, .inl (I, 200, .inl gZ))] H := hP
  have hD : va_D A [(yZ, .inr (3, [.ref akZ, .ref avZ, .ref awZ, .ref aoZ, .ref amZ, .ref lkZ, .ref lvZ, .ref luZ, .int (nI npZ), .int iwZ, .int imZ, .int ilZ, .int irZ, .int iuZ, .int iaZ, .int icZ])), (akZ, .inl (I, 200, .inl fZ)), (avZ, .inl (I, 200, .inl gZ))] := hD
  subst hw_3
  refine lv_if_eq (tgt := 13) hx hb dX3_computeIfAbsent_6 (by decide) (fun c_6 => ?_) (fun c_6 => ?_)
  · --6T
    refine lv_iconst (v := 0) hx hb dX3_computeIfAbsent_13 (by decide) ?_
    refine m_Vi (As := [.int 0]) (wr := [(akZ, .inl (I, 200, .inl fZ)), (avZ, .inl (I, 200, .inl gZ))]) (ws2 := fun _ => [(yZ, .inr (3, [.ref akZ, .ref avZ, .ref awZ, .ref aoZ, .ref amZ, .ref lkZ, .ref lvZ, .ref luZ, .int (nI npZ), .int iwZ, .int imZ, .int ilZ, .int irZ, .int iuZ, .int iaZ, .int 0])), (akZ, .inl (I, 200, .inl fZ)), (avZ, .inl (I, 200, .inl gZ))]) ⟨hx, hb, hml, hown, hts⟩ hA hK hP hD hS hl.1 (c_X3_fails l D I J H.size yZ akZ avZ awZ aoZ amZ lkZ lvZ luZ (nI npZ) iwZ imZ ilZ irZ iuZ iaZ icZ 0 ) (cwV 1 hts gX3_computeIfAbsent_X3_fails rfl rfl rfl (by decide +kernel) ⟨Nat.le_of_ble_eq_true rfl, Nat.le_of_ble_eq_true rfl⟩) [0] [1, 2] [2, 0, 1] 0 3 rfl rfl rfl rfl rfl (by decide) (by decide) (by decide) (by decide) (fun _ => rfl) rfl rfl (Nat.le_of_ble_eq_true rfl) dX3_computeIfAbsent_14 ⟨(by exact Nat.le_of_ble_eq_true rfl), (by exact Nat.le_of_ble_eq_true rfl)⟩ (fun r_14 u_14 H locs hw_14 hP hD hS => ?_)
    try dsimp only at hw_14
    have hP : va_P D vwCl [(yZ, .inr (3, [.ref akZ, .ref avZ, .ref awZ, .ref aoZ, .ref amZ, .ref lkZ, .ref lvZ, .ref luZ, .int (nI npZ), .int iwZ, .int imZ, .int ilZ, .int irZ, .int iuZ, .int iaZ, .int 0])), (akZ, .inl (I, 200, .inl fZ)), (avZ, .inl (I, 200, .inl gZ))] H := hP
    have hD : va_D A [(yZ, .inr (3, [.ref akZ, .ref avZ, .ref awZ, .ref aoZ, .ref amZ, .ref lkZ, .ref lvZ, .ref luZ, .int (nI npZ), .int iwZ, .int imZ, .int ilZ, .int irZ, .int iuZ, .int iaZ, .int 0])), (akZ, .inl (I, 200, .inl fZ)), (avZ, .inl (I, 200, .inl gZ))] := hD
    subst hw_14
    refine lv_if_eq (tgt := 22) hx hb dX3_computeIfAbsent_17 (by decide) (fun c_17 => ?_) (fun c_17 => ?_)
    · --6T17T
      refine lv_aload_n hx hb dX3_computeIfAbsent_22 rfl (lv_at hl 0 rfl) ?_
      refine lv_iload_n hx hb dX3_computeIfAbsent_23 rfl (lv_at hl 1 rfl) ?_
      refine m_Vi (As := [.int kZ]) (wr := [(avZ, .inl (I, 200, .inl gZ))]) (ws2 := fun _ => [(yZ, .inr (3, [.ref akZ, .ref avZ, .ref awZ, .ref aoZ, .ref amZ, .ref lkZ, .ref lvZ, .ref luZ, .int (nI npZ), .int iwZ, .int imZ, .int ilZ, .int irZ, .int iuZ, .int iaZ, .int 0])), (akZ, .inl (I, 200, .inl fZ)), (avZ, .inl (I, 200, .inl gZ))]) ⟨hx, hb, hml, hown, hts⟩ hA hK hP hD hS hl.1 (c_X3_at l D I J H.size yZ akZ avZ awZ aoZ amZ lkZ lvZ luZ npZ iwZ imZ ilZ irZ iuZ iaZ 0 fZ kZ (by omega)) (cwV 1 hts gX3_computeIfAbsent_X3_at rfl rfl rfl (by decide +kernel) ⟨Nat.le_of_ble_eq_true rfl, Nat.le_of_ble_eq_true rfl⟩) [0, 1] [2] [1, 2, 0] 0 3 rfl rfl rfl rfl rfl (by decide) (by decide) (by decide) (by decide) (fun _ => rfl) rfl rfl (Nat.le_of_ble_eq_true rfl) dX3_computeIfAbsent_24 ⟨(by exact Nat.le_of_ble_eq_true rfl), (by exact Nat.le_of_ble_eq_true rfl)⟩ (fun r_24 u_24 H locs hw_24 hP hD hS => ?_)
      try dsimp only at hw_24
      have hP : va_P D vwCl [(yZ, .inr (3, [.ref akZ, .ref avZ, .ref awZ, .ref aoZ, .ref amZ, .ref lkZ, .ref lvZ, .ref luZ, .int (nI npZ), .int iwZ, .int imZ, .int ilZ, .int irZ, .int iuZ, .int iaZ, .int 0])), (akZ, .inl (I, 200, .inl fZ)), (avZ, .inl (I, 200, .inl gZ))] H := hP
      have hD : va_D A [(yZ, .inr (3, [.ref akZ, .ref avZ, .ref awZ, .ref aoZ, .ref amZ, .ref lkZ, .ref lvZ, .ref luZ, .int (nI npZ), .int iwZ, .int imZ, .int ilZ, .int irZ, .int iuZ, .int iaZ, .int 0])), (akZ, .inl (I, 200, .inl fZ)), (avZ, .inl (I, 200, .inl gZ))] := hD
      subst hw_24
      refine lv_if_ge (tgt := 47) hx hb dX3_computeIfAbsent_27 (by decide) (fun c_27 => ?_) (fun c_27 => ?_)
      · --6T17T27T
        obtain ⟨jZ, ho⟩ := iO_ges c_27
        have hj := (rL_some ho).1
        refine lv_aload_n hx hb dX3_computeIfAbsent_47 rfl (lv_at hl 0 rfl) ?_
        refine lv_iload_n hx hb dX3_computeIfAbsent_48 rfl (lv_at hl 1 rfl) ?_
        refine m_Vl (As := [.int kZ]) (wr := []) (ws2 := fun _ => [(yZ, .inr (3, [.ref akZ, .ref avZ, .ref awZ, .ref aoZ, .ref amZ, .ref lkZ, .ref lvZ, .ref luZ, .int (nI npZ), .int iwZ, .int imZ, .int ilZ, .int irZ, .int iuZ, .int iaZ, .int 0])), (akZ, .inl (I, 200, .inl fZ)), (avZ, .inl (I, 200, .inl gZ))]) ⟨hx, hb, hml, hown, hts⟩ hA hK hP hD hS hl.1 (c_X3_now l D I J H.size yZ akZ avZ awZ aoZ amZ lkZ lvZ luZ npZ iwZ imZ ilZ irZ iuZ iaZ 0 fZ gZ kZ (by omega)) (cwV 1 hts gX3_computeIfAbsent_X3_now rfl rfl rfl (by decide +kernel) ⟨Nat.le_of_ble_eq_true rfl, Nat.le_of_ble_eq_true rfl⟩) [0, 1, 2] [] [0, 1, 2] 0 3 rfl rfl rfl rfl rfl (by decide) (by decide) (by decide) (by decide) (fun _ => rfl) rfl rfl (Nat.le_of_ble_eq_true rfl) dX3_computeIfAbsent_49 ⟨(by exact Nat.le_of_ble_eq_true rfl), (by exact Nat.le_of_ble_eq_true rfl)⟩ (fun r_49 u_49 H locs hw_49 hP hD hS => ?_)
        try dsimp only at hw_49
        have hP : va_P D vwCl [(yZ, .inr (3, [.ref akZ, .ref avZ, .ref awZ, .ref aoZ, .ref amZ, .ref lkZ, .ref lvZ, .ref luZ, .int (nI npZ), .int iwZ, .int imZ, .int ilZ, .int irZ, .int iuZ, .int iaZ, .int 0])), (akZ, .inl (I, 200, .inl fZ)), (avZ, .inl (I, 200, .inl gZ))] H := hP
        have hD : va_D A [(yZ, .inr (3, [.ref akZ, .ref avZ, .ref awZ, .ref aoZ, .ref amZ, .ref lkZ, .ref lvZ, .ref luZ, .int (nI npZ), .int iwZ, .int imZ, .int ilZ, .int irZ, .int iuZ, .int iaZ, .int 0])), (akZ, .inl (I, 200, .inl fZ)), (avZ, .inl (I, 200, .inl gZ))] := hD
        subst hw_49
        refine m_topl (y := ((gZ jZ).toInt64)) (by rw [ho]; rfl) ?_
        have hEq : [(yZ, .inr (3, [.ref akZ, .ref avZ, .ref awZ, .ref aoZ, .ref amZ, .ref lkZ, .ref lvZ, .ref luZ, .int (nI npZ), .int iwZ, .int imZ, .int ilZ, .int irZ, .int iuZ, .int iaZ, .int 0])), (akZ, .inl (I, 200, .inl fZ)), (avZ, .inl (I, 200, .inl gZ))] = ([(yZ, .inr (3, [.ref akZ, .ref avZ, .ref awZ, .ref aoZ, .ref amZ, .ref lkZ, .ref lvZ, .ref luZ, .int (nI (cpaN npZ kZ (rL fZ kZ npZ))), .int iwZ, .int imZ, .int ilZ, .int irZ, .int iuZ, .int iaZ, .int 0])), (akZ, .inl (I, 200, .inl (cpaF fZ npZ kZ (rL fZ kZ npZ)))), (avZ, .inl (I, 200, .inl (cpaG gZ npZ kZ (rL fZ kZ npZ))))] : va_W) := (by rw [ho]; rfl)
        rw [hEq] at hP hD
        refine m_lret () hx hb hr hlocks hP hD hS dX3_computeIfAbsent_52 (by first | exact Nat.le_of_ble_eq_true rfl | omega) (by first | exact Nat.le_of_ble_eq_true rfl | omega) ?_
        rw [ho]; rfl
      · --6T17T27F
        have ho : rL fZ kZ npZ = none := iO_ge c_27 (rL_lt (by omega))
        have hlt := hnew ho
        refine lv_iload_n hx hb dX3_computeIfAbsent_30 rfl (lv_at hl 1 rfl) ?_
        refine lv_bipush (v := 7) hx hb dX3_computeIfAbsent_31 (by decide) ?_
        refine lv_irem hx hb dX3_computeIfAbsent_33 (by decide) ?_
        refine lv_if_eq (tgt := 47) hx hb dX3_computeIfAbsent_34 (by decide) (fun c_34 => ?_) (fun c_34 => ?_)
        · --6T17T27F34T
          refine lv_aload_n hx hb dX3_computeIfAbsent_47 rfl (lv_at hl 0 rfl) ?_
          refine lv_iload_n hx hb dX3_computeIfAbsent_48 rfl (lv_at hl 1 rfl) ?_
          refine m_Vl (As := [.int kZ]) (wr := []) (ws2 := fun _ => [(yZ, .inr (3, [.ref akZ, .ref avZ, .ref awZ, .ref aoZ, .ref amZ, .ref lkZ, .ref lvZ, .ref luZ, .int (nI npZ), .int iwZ, .int imZ, .int ilZ, .int irZ, .int iuZ, .int iaZ, .int 0])), (akZ, .inl (I, 200, .inl fZ)), (avZ, .inl (I, 200, .inl gZ))]) ⟨hx, hb, hml, hown, hts⟩ hA hK hP hD hS hl.1 (c_X3_now l D I J H.size yZ akZ avZ awZ aoZ amZ lkZ lvZ luZ npZ iwZ imZ ilZ irZ iuZ iaZ 0 fZ gZ kZ (by omega)) (cwV 1 hts gX3_computeIfAbsent_X3_now rfl rfl rfl (by decide +kernel) ⟨Nat.le_of_ble_eq_true rfl, Nat.le_of_ble_eq_true rfl⟩) [0, 1, 2] [] [0, 1, 2] 0 3 rfl rfl rfl rfl rfl (by decide) (by decide) (by decide) (by decide) (fun _ => rfl) rfl rfl (Nat.le_of_ble_eq_true rfl) dX3_computeIfAbsent_49 ⟨(by exact Nat.le_of_ble_eq_true rfl), (by exact Nat.le_of_ble_eq_true rfl)⟩ (fun r_49 u_49 H locs hw_49 hP hD hS => ?_)
          try dsimp only at hw_49
          have hP : va_P D vwCl [(yZ, .inr (3, [.ref akZ, .ref avZ, .ref awZ, .ref aoZ, .ref amZ, .ref lkZ, .ref lvZ, .ref luZ, .int (nI npZ), .int iwZ, .int imZ, .int ilZ, .int irZ, .int iuZ, .int iaZ, .int 0])), (akZ, .inl (I, 200, .inl fZ)), (avZ, .inl (I, 200, .inl gZ))] H := hP
          have hD : va_D A [(yZ, .inr (3, [.ref akZ, .ref avZ, .ref awZ, .ref aoZ, .ref amZ, .ref lkZ, .ref lvZ, .ref luZ, .int (nI npZ), .int iwZ, .int imZ, .int ilZ, .int irZ, .int iuZ, .int iaZ, .int 0])), (akZ, .inl (I, 200, .inl fZ)), (avZ, .inl (I, 200, .inl gZ))] := hD
          subst hw_49
          refine m_topl (y := 4294967296) (by rw [ho]; rfl) ?_
          have hEq : [(yZ, .inr (3, [.ref akZ, .ref avZ, .ref awZ, .ref aoZ, .ref amZ, .ref lkZ, .ref lvZ, .ref luZ, .int (nI npZ), .int iwZ, .int imZ, .int ilZ, .int irZ, .int iuZ, .int iaZ, .int 0])), (akZ, .inl (I, 200, .inl fZ)), (avZ, .inl (I, 200, .inl gZ))] = ([(yZ, .inr (3, [.ref akZ, .ref avZ, .ref awZ, .ref aoZ, .ref amZ, .ref lkZ, .ref lvZ, .ref luZ, .int (nI (cpaN npZ kZ (rL fZ kZ npZ))), .int iwZ, .int imZ, .int ilZ, .int irZ, .int iuZ, .int iaZ, .int 0])), (akZ, .inl (I, 200, .inl (cpaF fZ npZ kZ (rL fZ kZ npZ)))), (avZ, .inl (I, 200, .inl (cpaG gZ npZ kZ (rL fZ kZ npZ))))] : va_W) := (by rw [ho]; simp [cpaN, cpaF, cpaG, c_34])
          rw [hEq] at hP hD
          refine m_lret () hx hb hr hlocks hP hD hS dX3_computeIfAbsent_52 (by first | exact Nat.le_of_ble_eq_true rfl | omega) (by first | exact Nat.le_of_ble_eq_true rfl | omega) ?_
          rw [ho]; simp [cpaA, c_34]
        · --6T17T27F34F
          refine lv_aload_n hx hb dX3_computeIfAbsent_37 rfl (lv_at hl 0 rfl) ?_
          refine lv_iload_n hx hb dX3_computeIfAbsent_38 rfl (lv_at hl 1 rfl) ?_
          refine lv_iconst (v := 3) hx hb dX3_computeIfAbsent_39 (by decide) ?_
          refine lv_iload_n hx hb dX3_computeIfAbsent_40 rfl (lv_at hl 1 rfl) ?_
          refine lv_imul hx hb dX3_computeIfAbsent_41 ?_
          refine lv_iconst (v := 1) hx hb dX3_computeIfAbsent_42 (by decide) ?_
          refine lv_iadd hx hb dX3_computeIfAbsent_43 ?_
          refine m_topi (y := (3 * kZ + 1)) (by rfl) ?_
          refine m_Vv (As := [.int kZ, .int (3 * kZ + 1)]) (wr := []) (ws2 := fun _ => [(yZ, .inr (3, [.ref akZ, .ref avZ, .ref awZ, .ref aoZ, .ref amZ, .ref lkZ, .ref lvZ, .ref luZ, .int (nI (insN npZ (rL fZ kZ npZ))), .int iwZ, .int imZ, .int ilZ, .int irZ, .int iuZ, .int iaZ, .int 0])), (akZ, .inl (I, 200, .inl (insF fZ npZ kZ (rL fZ kZ npZ)))), (avZ, .inl (I, 200, .inl (insG gZ npZ (3 * kZ + 1) (rL fZ kZ npZ))))]) ⟨hx, hb, hml, hown, hts⟩ hA hK hP hD hS hl.1 (c_X3_lays l D I J H.size yZ akZ avZ awZ aoZ amZ lkZ lvZ luZ npZ iwZ imZ ilZ irZ iuZ iaZ 0 fZ gZ kZ (3 * kZ + 1) (by exact hnew) (by omega)) (cwV 2 hts gX3_computeIfAbsent_X3_lays rfl rfl rfl (by decide +kernel) ⟨Nat.le_of_ble_eq_true rfl, Nat.le_of_ble_eq_true rfl⟩) [0, 1, 2] [] [0, 1, 2] 0 3 rfl rfl rfl rfl rfl (by decide) (by decide) (by decide) (by decide) (fun _ => rfl) rfl rfl (Nat.le_of_ble_eq_true rfl) dX3_computeIfAbsent_44 ⟨(by exact Nat.le_of_ble_eq_true rfl), (by exact Nat.le_of_ble_eq_true rfl)⟩ (fun u_44 H locs hw_44 hP hD hS => ?_)
          clear hw_44
          have hP : va_P D vwCl [(yZ, .inr (3, [.ref akZ, .ref avZ, .ref awZ, .ref aoZ, .ref amZ, .ref lkZ, .ref lvZ, .ref luZ, .int (nI (insN npZ (rL fZ kZ npZ))), .int iwZ, .int imZ, .int ilZ, .int irZ, .int iuZ, .int iaZ, .int 0])), (akZ, .inl (I, 200, .inl (insF fZ npZ kZ (rL fZ kZ npZ)))), (avZ, .inl (I, 200, .inl (insG gZ npZ (3 * kZ + 1) (rL fZ kZ npZ))))] H := hP
          have hD : va_D A [(yZ, .inr (3, [.ref akZ, .ref avZ, .ref awZ, .ref aoZ, .ref amZ, .ref lkZ, .ref lvZ, .ref luZ, .int (nI (insN npZ (rL fZ kZ npZ))), .int iwZ, .int imZ, .int ilZ, .int irZ, .int iuZ, .int iaZ, .int 0])), (akZ, .inl (I, 200, .inl (insF fZ npZ kZ (rL fZ kZ npZ)))), (avZ, .inl (I, 200, .inl (insG gZ npZ (3 * kZ + 1) (rL fZ kZ npZ))))] := hD
          rw [ho] at hP hD
          have hP : va_P D vwCl [(yZ, .inr (3, [.ref akZ, .ref avZ, .ref awZ, .ref aoZ, .ref amZ, .ref lkZ, .ref lvZ, .ref luZ, .int (nI (npZ + 1)), .int iwZ, .int imZ, .int ilZ, .int irZ, .int iuZ, .int iaZ, .int 0])), (akZ, .inl (I, 200, .inl (upd fZ npZ kZ))), (avZ, .inl (I, 200, .inl (upd gZ npZ (3 * kZ + 1))))] H := hP
          have hD : va_D A [(yZ, .inr (3, [.ref akZ, .ref avZ, .ref awZ, .ref aoZ, .ref amZ, .ref lkZ, .ref lvZ, .ref luZ, .int (nI (npZ + 1)), .int iwZ, .int imZ, .int ilZ, .int irZ, .int iuZ, .int iaZ, .int 0])), (akZ, .inl (I, 200, .inl (upd fZ npZ kZ))), (avZ, .inl (I, 200, .inl (upd gZ npZ (3 * kZ + 1))))] := hD
          refine lv_aload_n hx hb dX3_computeIfAbsent_47 rfl (lv_at hl 0 rfl) ?_
          refine lv_iload_n hx hb dX3_computeIfAbsent_48 rfl (lv_at hl 1 rfl) ?_
          refine m_Vl (As := [.int kZ]) (wr := []) (ws2 := fun _ => [(yZ, .inr (3, [.ref akZ, .ref avZ, .ref awZ, .ref aoZ, .ref amZ, .ref lkZ, .ref lvZ, .ref luZ, .int (nI (npZ + 1)), .int iwZ, .int imZ, .int ilZ, .int irZ, .int iuZ, .int iaZ, .int 0])), (akZ, .inl (I, 200, .inl (upd fZ npZ kZ))), (avZ, .inl (I, 200, .inl (upd gZ npZ (3 * kZ + 1))))]) ⟨hx, hb, hml, hown, hts⟩ hA hK hP hD hS hl.1 (c_X3_now l D I J H.size yZ akZ avZ awZ aoZ amZ lkZ lvZ luZ (npZ + 1) iwZ imZ ilZ irZ iuZ iaZ 0 (upd fZ npZ kZ) (upd gZ npZ (3 * kZ + 1)) kZ (by omega)) (cwV 1 hts gX3_computeIfAbsent_X3_now rfl rfl rfl (by decide +kernel) ⟨Nat.le_of_ble_eq_true rfl, Nat.le_of_ble_eq_true rfl⟩) [0, 1, 2] [] [0, 1, 2] 0 3 rfl rfl rfl rfl rfl (by decide) (by decide) (by decide) (by decide) (fun _ => rfl) rfl rfl (Nat.le_of_ble_eq_true rfl) dX3_computeIfAbsent_49 ⟨(by exact Nat.le_of_ble_eq_true rfl), (by exact Nat.le_of_ble_eq_true rfl)⟩ (fun r_49 u_49 H locs hw_49 hP hD hS => ?_)
          try dsimp only at hw_49
          have hP : va_P D vwCl [(yZ, .inr (3, [.ref akZ, .ref avZ, .ref awZ, .ref aoZ, .ref amZ, .ref lkZ, .ref lvZ, .ref luZ, .int (nI (npZ + 1)), .int iwZ, .int imZ, .int ilZ, .int irZ, .int iuZ, .int iaZ, .int 0])), (akZ, .inl (I, 200, .inl (upd fZ npZ kZ))), (avZ, .inl (I, 200, .inl (upd gZ npZ (3 * kZ + 1))))] H := hP
          have hD : va_D A [(yZ, .inr (3, [.ref akZ, .ref avZ, .ref awZ, .ref aoZ, .ref amZ, .ref lkZ, .ref lvZ, .ref luZ, .int (nI (npZ + 1)), .int iwZ, .int imZ, .int ilZ, .int irZ, .int iuZ, .int iaZ, .int 0])), (akZ, .inl (I, 200, .inl (upd fZ npZ kZ))), (avZ, .inl (I, 200, .inl (upd gZ npZ (3 * kZ + 1))))] := hD
          subst hw_49
          refine m_topl (y := ((3 * kZ + 1).toInt64)) (by rw [rL_new]; show (upd gZ npZ (3 * kZ + 1) npZ).toInt64 = _; simp [upd]) ?_
          have hEq : [(yZ, .inr (3, [.ref akZ, .ref avZ, .ref awZ, .ref aoZ, .ref amZ, .ref lkZ, .ref lvZ, .ref luZ, .int (nI (npZ + 1)), .int iwZ, .int imZ, .int ilZ, .int irZ, .int iuZ, .int iaZ, .int 0])), (akZ, .inl (I, 200, .inl (upd fZ npZ kZ))), (avZ, .inl (I, 200, .inl (upd gZ npZ (3 * kZ + 1))))] = ([(yZ, .inr (3, [.ref akZ, .ref avZ, .ref awZ, .ref aoZ, .ref amZ, .ref lkZ, .ref lvZ, .ref luZ, .int (nI (cpaN npZ kZ (rL fZ kZ npZ))), .int iwZ, .int imZ, .int ilZ, .int irZ, .int iuZ, .int iaZ, .int 0])), (akZ, .inl (I, 200, .inl (cpaF fZ npZ kZ (rL fZ kZ npZ)))), (avZ, .inl (I, 200, .inl (cpaG gZ npZ kZ (rL fZ kZ npZ))))] : va_W) := (by rw [ho]; simp [cpaN, cpaF, cpaG, c_34])
          rw [hEq] at hP hD
          refine m_lret () hx hb hr hlocks hP hD hS dX3_computeIfAbsent_52 (by first | exact Nat.le_of_ble_eq_true rfl | omega) (by first | exact Nat.le_of_ble_eq_true rfl | omega) ?_
          rw [ho]; simp [cpaA, c_34]
    · --6T17F
      exact absurd (by decide) c_17
  · --6F
    exact absurd (by rw [hfull]; rfl) c_6
