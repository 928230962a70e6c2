set_option maxHeartbeats 4000000 in
set_option maxRecDepth 100000 in
theorem c_X3_count (l : Launch) (D : va_G) (I J : ClassId) (sz : Nat) (yZ : Nat) (akZ : Nat) (avZ : Nat) (awZ : Nat) (aoZ : Nat) (amZ : Nat) (lkZ : Nat) (lvZ : Nat) (luZ : Nat) (ipZ : Int32) (nwZ : Nat) (imZ : Int32) (ilZ : Int32) (irZ : Int32) (iuZ : Int32) (iaZ : Int32) (icZ : Int32) (fZ : Nat → Int32) (gZ : Nat → Int32) (wZ : Int32) (hwd : (decide ((0 : Int32) ≤ wZ) && decide (wZ ≤ 18277)) = true) (hnew : rL fZ wZ nwZ = none → nwZ < 200) (hnw : nwZ ≤ 200) : mCi l yX3_count wsX3_count 1 24 0 0 D I J [.ref yZ, .int wZ] [(yZ, .inr (3, [.ref akZ, .ref avZ, .ref awZ, .ref aoZ, .ref amZ, .ref lkZ, .ref lvZ, .ref luZ, .int ipZ, .int (nI nwZ), .int imZ, .int ilZ, .int irZ, .int iuZ, .int iaZ, .int icZ])), (awZ, .inl (I, 200, .inl fZ)), (aoZ, .inl (I, 200, .inl gZ))] sz (fun (x : Int32) (u : Unit) => x = (orO gZ 0 (rL fZ wZ nwZ) + 1)) (fun (u : Unit) => [(yZ, .inr (3, [.ref akZ, .ref avZ, .ref awZ, .ref aoZ, .ref amZ, .ref lkZ, .ref lvZ, .ref luZ, .int ipZ, .int (nI (insN nwZ (rL fZ wZ nwZ))), .int imZ, .int ilZ, .int irZ, .int iuZ, .int iaZ, .int 0])), (awZ, .inl (I, 200, .inl (insF fZ nwZ wZ (rL fZ wZ nwZ)))), (aoZ, .inl (I, 200, .inl (insG gZ nwZ (orO gZ 0 (rL fZ wZ nwZ) + 1) (rL fZ wZ nwZ))))]) := by
  refine m_ofi (cc := cX3_count) (maxL := 3) (ret := (some .int)) (by decide) rfl (Nat.le_of_ble_eq_true rfl) ?_
  intro p e s m args below meth c A ls hx hb hr hlocks hml hts hown hin hK hP hD hA hS hl
  have hl : lv_has ls 3 [(0, .ref yZ), (1, .int wZ)] := hl
  have hP : va_P D vwCl [(yZ, .inr (3, [.ref akZ, .ref avZ, .ref awZ, .ref aoZ, .ref amZ, .ref lkZ, .ref lvZ, .ref luZ, .int ipZ, .int (nI nwZ), .int imZ, .int ilZ, .int irZ, .int iuZ, .int iaZ, .int icZ])), (awZ, .inl (I, 200, .inl fZ)), (aoZ, .inl (I, 200, .inl gZ))] s.heap := hP
  have hD : va_D A [(yZ, .inr (3, [.ref akZ, .ref avZ, .ref awZ, .ref aoZ, .ref amZ, .ref lkZ, .ref lvZ, .ref luZ, .int ipZ, .int (nI nwZ), .int imZ, .int ilZ, .int irZ, .int iuZ, .int iaZ, .int icZ])), (awZ, .inl (I, 200, .inl fZ)), (aoZ, .inl (I, 200, .inl gZ))] := hD
  refine lv_aload_n hx hb dX3_count_0 rfl (lv_at hl 0 rfl) ?_
  refine va_get (D := D) (ci := 3) (v := .ref awZ) (C := RX3) (T := TX3) (N := 16) hx hb hts (fun _ h => List.mem_cons_of_mem _ (List.mem_append_right _ h)) hown hK hP 0 rfl rfl 2 (by decide) (hts (.fieldLink RX3 16 "MapsByUseModel" "told" "[I") (List.mem_of_getElem? (i := 1) (by decide +kernel))) (fun _ h9 => h9) rfl dX3_count_1 ?_
  refine lv_aload_n hx hb dX3_count_4 rfl (lv_at hl 0 rfl) ?_
  refine va_get (D := D) (ci := 3) (v := .int (nI nwZ)) (C := RX3) (T := TX3) (N := 16) hx hb hts (fun _ h => List.mem_cons_of_mem _ (List.mem_append_right _ h)) hown hK hP 0 rfl rfl 9 (by decide) (hts (.fieldLink RX3 88 "MapsByUseModel" "many" "I") (List.mem_of_getElem? (i := 2) (by decide +kernel))) (fun _ h9 => h9) rfl dX3_count_5 ?_
  refine lv_iload_n hx hb dX3_count_8 rfl (lv_at hl 1 rfl) ?_
  refine m_Si (As := [.ref awZ, .int (nI nwZ), .int wZ]) (wr := [(yZ, .inr (3, [.ref akZ, .ref avZ, .ref awZ, .ref aoZ, .ref amZ, .ref lkZ, .ref lvZ, .ref luZ, .int ipZ, .int (nI nwZ), .int imZ, .int ilZ, .int irZ, .int iuZ, .int iaZ, .int icZ])), (aoZ, .inl (I, 200, .inl gZ))]) (ws2 := fun _ => [(yZ, .inr (3, [.ref akZ, .ref avZ, .ref awZ, .ref aoZ, .ref amZ, .ref lkZ, .ref lvZ, .ref luZ, .int ipZ, .int (nI nwZ), .int imZ, .int ilZ, .int irZ, .int iuZ, .int iaZ, .int icZ])), (awZ, .inl (I, 200, .inl fZ)), (aoZ, .inl (I, 200, .inl gZ))]) ⟨hx, hb, hml, hown, hts⟩ hA hK hP hD hS hl.1 (c_X3_find l D I J s.heap.size awZ 200 fZ nwZ wZ (by omega) (by omega)) (cwS 3 hts gX3_count_X3_find rfl rfl rfl (by decide +kernel) ⟨Nat.le_of_ble_eq_true rfl, Nat.le_of_ble_eq_true rfl⟩) [1] [0, 2] [0, 2, 1] rfl rfl (by decide) (by decide) (by decide) (by decide) (fun _ => rfl) rfl rfl (Nat.le_of_ble_eq_true rfl) dX3_count_9 ⟨(by exact Nat.le_of_ble_eq_true rfl), (by exact Nat.le_of_ble_eq_true rfl)⟩ (fun r_9 u_9 H locs hw_9 hP hD hS => ?_)
  try dsimp only at hw_9
  have hP : va_P D vwCl [(yZ, .inr (3, [.ref akZ, .ref avZ, .ref awZ, .ref aoZ, .ref amZ, .ref lkZ, .ref lvZ, .ref luZ, .int ipZ, .int (nI nwZ), .int imZ, .int ilZ, .int irZ, .int iuZ, .int iaZ, .int icZ])), (awZ, .inl (I, 200, .inl fZ)), (aoZ, .inl (I, 200, .inl gZ))] H := hP
  have hD : va_D A [(yZ, .inr (3, [.ref akZ, .ref avZ, .ref awZ, .ref aoZ, .ref amZ, .ref lkZ, .ref lvZ, .ref luZ, .int ipZ, .int (nI nwZ), .int imZ, .int ilZ, .int irZ, .int iuZ, .int iaZ, .int icZ])), (awZ, .inl (I, 200, .inl fZ)), (aoZ, .inl (I, 200, .inl gZ))] := hD
  subst hw_9
  refine lv_istore_n (lv' := [(2, .int (iO (rL fZ wZ nwZ))), (0, .ref yZ), (1, .int wZ)]) hx hb dX3_count_12 rfl hl (by decide) rfl (fun ls hl => ?_)
  refine lv_aload_n hx hb dX3_count_13 rfl (lv_at hl 1 rfl) ?_
  refine lv_iload_n hx hb dX3_count_14 rfl (lv_at hl 2 rfl) ?_
  refine lv_iconst (v := 0) hx hb dX3_count_15 (by decide) ?_
  refine lv_sipush (v := 18277) hx hb dX3_count_16 (by decide) ?_
  refine m_Si (As := [.int wZ, .int 0, .int 18277]) (wr := [(yZ, .inr (3, [.ref akZ, .ref avZ, .ref awZ, .ref aoZ, .ref amZ, .ref lkZ, .ref lvZ, .ref luZ, .int ipZ, .int (nI nwZ), .int imZ, .int ilZ, .int irZ, .int iuZ, .int iaZ, .int icZ])), (awZ, .inl (I, 200, .inl fZ)), (aoZ, .inl (I, 200, .inl gZ))]) (ws2 := fun _ => [(yZ, .inr (3, [.ref akZ, .ref avZ, .ref awZ, .ref aoZ, .ref amZ, .ref lkZ, .ref lvZ, .ref luZ, .int ipZ, .int (nI nwZ), .int imZ, .int ilZ, .int irZ, .int iuZ, .int iaZ, .int icZ])), (awZ, .inl (I, 200, .inl fZ)), (aoZ, .inl (I, 200, .inl gZ))]) ⟨hx, hb, hml, hown, hts⟩ hA hK hP hD hS hl.1 (c_X3_in l D I J H.size wZ 0 18277 ) (cwS 3 hts gX3_count_X3_in rfl rfl rfl (by decide +kernel) ⟨Nat.le_of_ble_eq_true rfl, Nat.le_of_ble_eq_true rfl⟩) [] [0, 1, 2] [0, 1, 2] rfl rfl (by decide) (by decide) (by decide) (by decide) (fun _ => rfl) rfl rfl (Nat.le_of_ble_eq_true rfl) dX3_count_19 ⟨(by exact Nat.le_of_ble_eq_true rfl), (by exact Nat.le_of_ble_eq_true rfl)⟩ (fun r_19 u_19 H locs hw_19 hP hD hS => ?_)
  try dsimp only at hw_19
  have hP : va_P D vwCl [(yZ, .inr (3, [.ref akZ, .ref avZ, .ref awZ, .ref aoZ, .ref amZ, .ref lkZ, .ref lvZ, .ref luZ, .int ipZ, .int (nI nwZ), .int imZ, .int ilZ, .int irZ, .int iuZ, .int iaZ, .int icZ])), (awZ, .inl (I, 200, .inl fZ)), (aoZ, .inl (I, 200, .inl gZ))] H := hP
  have hD : va_D A [(yZ, .inr (3, [.ref akZ, .ref avZ, .ref awZ, .ref aoZ, .ref amZ, .ref lkZ, .ref lvZ, .ref luZ, .int ipZ, .int (nI nwZ), .int imZ, .int ilZ, .int irZ, .int iuZ, .int iaZ, .int icZ])), (awZ, .inl (I, 200, .inl fZ)), (aoZ, .inl (I, 200, .inl gZ))] := hD
  subst hw_19
  refine lv_if_ne (tgt := 29) hx hb dX3_count_22 (by decide) (fun c_22 => ?_) (fun c_22 => ?_)
  · --22T
    refine lv_iload_n hx hb dX3_count_29 rfl (lv_at hl 0 rfl) ?_
    refine lv_if_ge (tgt := 47) hx hb dX3_count_30 (by decide) (fun c_30 => ?_) (fun c_30 => ?_)
    · --22T30T
      refine lv_iconst (v := 0) hx hb dX3_count_47 (by decide) ?_
      refine m_Vi (As := [.int 0]) (wr := [(awZ, .inl (I, 200, .inl fZ)), (aoZ, .inl (I, 200, .inl gZ))]) (ws2 := fun _ => [(yZ, .inr (3, [.ref akZ, .ref avZ, .ref awZ, .ref aoZ, .ref amZ, .ref lkZ, .ref lvZ, .ref luZ, .int ipZ, .int (nI nwZ), .int imZ, .int ilZ, .int irZ, .int iuZ, .int iaZ, .int 0])), (awZ, .inl (I, 200, .inl fZ)), (aoZ, .inl (I, 200, .inl gZ))]) ⟨hx, hb, hml, hown, hts⟩ hA hK hP hD hS hl.1 (c_X3_fails l D I J H.size yZ akZ avZ awZ aoZ amZ lkZ lvZ luZ ipZ (nI nwZ) imZ ilZ irZ iuZ iaZ icZ 0 ) (cwV 1 hts gX3_count_X3_fails rfl rfl rfl (by decide +kernel) ⟨Nat.le_of_ble_eq_true rfl, Nat.le_of_ble_eq_true rfl⟩) [0] [1, 2] [2, 0, 1] 0 3 rfl rfl rfl rfl rfl (by decide) (by decide) (by decide) (by decide) (fun _ => rfl) rfl rfl (Nat.le_of_ble_eq_true rfl) dX3_count_48 ⟨(by exact Nat.le_of_ble_eq_true rfl), (by exact Nat.le_of_ble_eq_true rfl)⟩ (fun r_48 u_48 H locs hw_48 hP hD hS => ?_)
      try dsimp only at hw_48
      have hP : va_P D vwCl [(yZ, .inr (3, [.ref akZ, .ref avZ, .ref awZ, .ref aoZ, .ref amZ, .ref lkZ, .ref lvZ, .ref luZ, .int ipZ, .int (nI nwZ), .int imZ, .int ilZ, .int irZ, .int iuZ, .int iaZ, .int 0])), (awZ, .inl (I, 200, .inl fZ)), (aoZ, .inl (I, 200, .inl gZ))] H := hP
      have hD : va_D A [(yZ, .inr (3, [.ref akZ, .ref avZ, .ref awZ, .ref aoZ, .ref amZ, .ref lkZ, .ref lvZ, .ref luZ, .int ipZ, .int (nI nwZ), .int imZ, .int ilZ, .int irZ, .int iuZ, .int iaZ, .int 0])), (awZ, .inl (I, 200, .inl fZ)), (aoZ, .inl (I, 200, .inl gZ))] := hD
      subst hw_48
      refine lv_if_eq (tgt := 56) hx hb dX3_count_51 (by decide) (fun c_51 => ?_) (fun c_51 => ?_)
      · --22T30T51T
        refine lv_iload_n hx hb dX3_count_56 rfl (lv_at hl 0 rfl) ?_
        refine lv_if_ge (tgt := 89) hx hb dX3_count_57 (by decide) (fun c_57 => ?_) (fun c_57 => ?_)
        · --22T30T51T57T
          obtain ⟨jZ, ho⟩ := iO_ges c_30
          have hj := (rL_some ho).1
          rw [ho] at hl
          refine lv_aload_n hx hb dX3_count_89 rfl (lv_at hl 1 rfl) ?_
          refine va_get (D := D) (ci := 3) (v := .ref aoZ) (C := RX3) (T := TX3) (N := 16) hx hb hts (fun _ h => List.mem_cons_of_mem _ (List.mem_append_right _ h)) hown hK hP 0 rfl rfl 3 (by decide) (hts (.fieldLink RX3 19 "MapsByUseModel" "often" "[I") (List.mem_of_getElem? (i := 3) (by decide +kernel))) (fun _ h9 => h9) rfl dX3_count_90 ?_
          refine lv_iload_n hx hb dX3_count_93 rfl (lv_at hl 0 rfl) ?_
          refine lv_dup2_11 hx hb dX3_count_94 rfl rfl ?_
          refine m_iald (D := D) (cl := vwCl) hx hb hK hP 2 0 (j := jZ) rfl rfl (by rfl) (by omega) (by omega) dX3_count_95 ?_
          refine lv_iconst (v := 1) hx hb dX3_count_96 (by decide) ?_
          refine lv_iadd hx hb dX3_count_97 ?_
          refine m_iast (D := D) (cl := vwCl) hx hb hK hP hD hS 2 0 (j := jZ) rfl rfl (by rfl) (by omega) (by omega) dX3_count_98 (fun H locs hP hD hS => ?_)
          have hP : va_P D vwCl [(yZ, .inr (3, [.ref akZ, .ref avZ, .ref awZ, .ref aoZ, .ref amZ, .ref lkZ, .ref lvZ, .ref luZ, .int ipZ, .int (nI nwZ), .int imZ, .int ilZ, .int irZ, .int iuZ, .int iaZ, .int 0])), (awZ, .inl (I, 200, .inl fZ)), (aoZ, .inl (I, 200, .inl (upd gZ jZ ((gZ jZ) + 1))))] H := hP
          have hD : va_D A [(yZ, .inr (3, [.ref akZ, .ref avZ, .ref awZ, .ref aoZ, .ref amZ, .ref lkZ, .ref lvZ, .ref luZ, .int ipZ, .int (nI nwZ), .int imZ, .int ilZ, .int irZ, .int iuZ, .int iaZ, .int 0])), (awZ, .inl (I, 200, .inl fZ)), (aoZ, .inl (I, 200, .inl (upd gZ jZ ((gZ jZ) + 1))))] := hD
          refine lv_aload_n hx hb dX3_count_99 rfl (lv_at hl 1 rfl) ?_
          refine va_get (D := D) (ci := 3) (v := .ref aoZ) (C := RX3) (T := TX3) (N := 16) hx hb hts (fun _ h => List.mem_cons_of_mem _ (List.mem_append_right _ h)) hown hK hP 0 rfl rfl 3 (by decide) (hts (.fieldLink RX3 19 "MapsByUseModel" "often" "[I") (List.mem_of_getElem? (i := 3) (by decide +kernel))) (fun _ h9 => h9) rfl dX3_count_100 ?_
          refine lv_iload_n hx hb dX3_count_103 rfl (lv_at hl 0 rfl) ?_
          refine m_iald (D := D) (cl := vwCl) hx hb hK hP 2 0 (j := jZ) rfl rfl (by rfl) (by omega) (by omega) dX3_count_104 ?_
          refine m_topi (y := (gZ jZ + 1)) (by exact upd_at _ _ _) ?_
          have hEq : [(yZ, .inr (3, [.ref akZ, .ref avZ, .ref awZ, .ref aoZ, .ref amZ, .ref lkZ, .ref lvZ, .ref luZ, .int ipZ, .int (nI nwZ), .int imZ, .int ilZ, .int irZ, .int iuZ, .int iaZ, .int 0])), (awZ, .inl (I, 200, .inl fZ)), (aoZ, .inl (I, 200, .inl (upd gZ jZ ((gZ jZ) + 1))))] = ([(yZ, .inr (3, [.ref akZ, .ref avZ, .ref awZ, .ref aoZ, .ref amZ, .ref lkZ, .ref lvZ, .ref luZ, .int ipZ, .int (nI (insN nwZ (rL fZ wZ nwZ))), .int imZ, .int ilZ, .int irZ, .int iuZ, .int iaZ, .int 0])), (awZ, .inl (I, 200, .inl (insF fZ nwZ wZ (rL fZ wZ nwZ)))), (aoZ, .inl (I, 200, .inl (insG gZ nwZ (orO gZ 0 (rL fZ wZ nwZ) + 1) (rL fZ wZ nwZ))))] : va_W) := (by rw [ho]; rfl)
          rw [hEq] at hP hD
          refine m_iret () hx hb hr hlocks hP hD hS dX3_count_105 (by first | exact Nat.le_of_ble_eq_true rfl | omega) (by first | exact Nat.le_of_ble_eq_true rfl | omega) ?_
          rw [ho]; rfl
        · --22T30T51T57F
          exact absurd c_30 c_57
      · --22T30T51F
        exact absurd (by decide) c_51
    · --22T30F
      refine lv_aload_n hx hb dX3_count_33 rfl (lv_at hl 1 rfl) ?_
      refine va_get (D := D) (ci := 3) (v := .int (nI nwZ)) (C := RX3) (T := TX3) (N := 16) hx hb hts (fun _ h => List.mem_cons_of_mem _ (List.mem_append_right _ h)) hown hK hP 0 rfl rfl 9 (by decide) (hts (.fieldLink RX3 88 "MapsByUseModel" "many" "I") (List.mem_of_getElem? (i := 2) (by decide +kernel))) (fun _ h9 => h9) rfl dX3_count_34 ?_
      refine lv_sipush (v := 200) hx hb dX3_count_37 (by decide) ?_
      refine lv_icmp_ne (tgt := 47) hx hb dX3_count_40 (by decide) (fun c_40 => ?_) (fun c_40 => ?_)
      · --22T30F40T
        refine lv_iconst (v := 0) hx hb dX3_count_47 (by decide) ?_
        refine m_Vi (As := [.int 0]) (wr := [(awZ, .inl (I, 200, .inl fZ)), (aoZ, .inl (I, 200, .inl gZ))]) (ws2 := fun _ => [(yZ, .inr (3, [.ref akZ, .ref avZ, .ref awZ, .ref aoZ, .ref amZ, .ref lkZ, .ref lvZ, .ref luZ, .int ipZ, .int (nI nwZ), .int imZ, .int ilZ, .int irZ, .int iuZ, .int iaZ, .int 0])), (awZ, .inl (I, 200, .inl fZ)), (aoZ, .inl (I, 200, .inl gZ))]) ⟨hx, hb, hml, hown, hts⟩ hA hK hP hD hS hl.1 (c_X3_fails l D I J H.size yZ akZ avZ awZ aoZ amZ lkZ lvZ luZ ipZ (nI nwZ) imZ ilZ irZ iuZ iaZ icZ 0 ) (cwV 1 hts gX3_count_X3_fails rfl rfl rfl (by decide +kernel) ⟨Nat.le_of_ble_eq_true rfl, Nat.le_of_ble_eq_true rfl⟩) [0] [1, 2] [2, 0, 1] 0 3 rfl rfl rfl rfl rfl (by decide) (by decide) (by decide) (by decide) (fun _ => rfl) rfl rfl (Nat.le_of_ble_eq_true rfl) dX3_count_48 ⟨(by exact Nat.le_of_ble_eq_true rfl), (by exact Nat.le_of_ble_eq_true rfl)⟩ (fun r_48 u_48 H locs hw_48 hP hD hS => ?_)
        try dsimp only at hw_48
        have hP : va_P D vwCl [(yZ, .inr (3, [.ref akZ, .ref avZ, .ref awZ, .ref aoZ, .ref amZ, .ref lkZ, .ref lvZ, .ref luZ, .int ipZ, .int (nI nwZ), .int imZ, .int ilZ, .int irZ, .int iuZ, .int iaZ, .int 0])), (awZ, .inl (I, 200, .inl fZ)), (aoZ, .inl (I, 200, .inl gZ))] H := hP
        have hD : va_D A [(yZ, .inr (3, [.ref akZ, .ref avZ, .ref awZ, .ref aoZ, .ref amZ, .ref lkZ, .ref lvZ, .ref luZ, .int ipZ, .int (nI nwZ), .int imZ, .int ilZ, .int irZ, .int iuZ, .int iaZ, .int 0])), (awZ, .inl (I, 200, .inl fZ)), (aoZ, .inl (I, 200, .inl gZ))] := hD
        subst hw_48
        refine lv_if_eq (tgt := 56) hx hb dX3_count_51 (by decide) (fun c_51 => ?_) (fun c_51 => ?_)
        · --22T30F40T51T
          refine lv_iload_n hx hb dX3_count_56 rfl (lv_at hl 0 rfl) ?_
          refine lv_if_ge (tgt := 89) hx hb dX3_count_57 (by decide) (fun c_57 => ?_) (fun c_57 => ?_)
          · --22T30F40T51T57T
            exact absurd c_57 c_30
          · --22T30F40T51T57F
            have ho : rL fZ wZ nwZ = none := iO_ge c_30 (rL_lt (by omega))
            have hlt := hnew ho
            refine lv_aload_n hx hb dX3_count_60 rfl (lv_at hl 1 rfl) ?_
            refine va_get (D := D) (ci := 3) (v := .int (nI nwZ)) (C := RX3) (T := TX3) (N := 16) hx hb hts (fun _ h => List.mem_cons_of_mem _ (List.mem_append_right _ h)) hown hK hP 0 rfl rfl 9 (by decide) (hts (.fieldLink RX3 88 "MapsByUseModel" "many" "I") (List.mem_of_getElem? (i := 2) (by decide +kernel))) (fun _ h9 => h9) rfl dX3_count_61 ?_
            refine lv_istore_n (lv' := [(2, .int (nI nwZ)), (0, .ref yZ), (1, .int wZ)]) hx hb dX3_count_64 rfl hl (by decide) rfl (fun ls hl => ?_)
            refine lv_aload_n hx hb dX3_count_65 rfl (lv_at hl 1 rfl) ?_
            refine va_get (D := D) (ci := 3) (v := .ref awZ) (C := RX3) (T := TX3) (N := 16) hx hb hts (fun _ h => List.mem_cons_of_mem _ (List.mem_append_right _ h)) hown hK hP 0 rfl rfl 2 (by decide) (hts (.fieldLink RX3 16 "MapsByUseModel" "told" "[I") (List.mem_of_getElem? (i := 1) (by decide +kernel))) (fun _ h9 => h9) rfl dX3_count_66 ?_
            refine lv_iload_n hx hb dX3_count_69 rfl (lv_at hl 0 rfl) ?_
            refine lv_iload_n hx hb dX3_count_70 rfl (lv_at hl 2 rfl) ?_
            refine m_iast (D := D) (cl := vwCl) hx hb hK hP hD hS 1 0 (j := nwZ) rfl rfl (by rfl) (by omega) (by omega) dX3_count_71 (fun H locs hP hD hS => ?_)
            have hP : va_P D vwCl [(yZ, .inr (3, [.ref akZ, .ref avZ, .ref awZ, .ref aoZ, .ref amZ, .ref lkZ, .ref lvZ, .ref luZ, .int ipZ, .int (nI nwZ), .int imZ, .int ilZ, .int irZ, .int iuZ, .int iaZ, .int 0])), (awZ, .inl (I, 200, .inl (upd fZ nwZ wZ))), (aoZ, .inl (I, 200, .inl gZ))] H := hP
            have hD : va_D A [(yZ, .inr (3, [.ref akZ, .ref avZ, .ref awZ, .ref aoZ, .ref amZ, .ref lkZ, .ref lvZ, .ref luZ, .int ipZ, .int (nI nwZ), .int imZ, .int ilZ, .int irZ, .int iuZ, .int iaZ, .int 0])), (awZ, .inl (I, 200, .inl (upd fZ nwZ wZ))), (aoZ, .inl (I, 200, .inl gZ))] := hD
            refine lv_aload_n hx hb dX3_count_72 rfl (lv_at hl 1 rfl) ?_
            refine va_get (D := D) (ci := 3) (v := .ref aoZ) (C := RX3) (T := TX3) (N := 16) hx hb hts (fun _ h => List.mem_cons_of_mem _ (List.mem_append_right _ h)) hown hK hP 0 rfl rfl 3 (by decide) (hts (.fieldLink RX3 19 "MapsByUseModel" "often" "[I") (List.mem_of_getElem? (i := 3) (by decide +kernel))) (fun _ h9 => h9) rfl dX3_count_73 ?_
            refine lv_iload_n hx hb dX3_count_76 rfl (lv_at hl 0 rfl) ?_
            refine lv_iconst (v := 0) hx hb dX3_count_77 (by decide) ?_
            refine m_iast (D := D) (cl := vwCl) hx hb hK hP hD hS 2 0 (j := nwZ) rfl rfl (by rfl) (by omega) (by omega) dX3_count_78 (fun H locs hP hD hS => ?_)
            have hP : va_P D vwCl [(yZ, .inr (3, [.ref akZ, .ref avZ, .ref awZ, .ref aoZ, .ref amZ, .ref lkZ, .ref lvZ, .ref luZ, .int ipZ, .int (nI nwZ), .int imZ, .int ilZ, .int irZ, .int iuZ, .int iaZ, .int 0])), (awZ, .inl (I, 200, .inl (upd fZ nwZ wZ))), (aoZ, .inl (I, 200, .inl (upd gZ nwZ 0)))] H := hP
            have hD : va_D A [(yZ, .inr (3, [.ref akZ, .ref avZ, .ref awZ, .ref aoZ, .ref amZ, .ref lkZ, .ref lvZ, .ref luZ, .int ipZ, .int (nI nwZ), .int imZ, .int ilZ, .int irZ, .int iuZ, .int iaZ, .int 0])), (awZ, .inl (I, 200, .inl (upd fZ nwZ wZ))), (aoZ, .inl (I, 200, .inl (upd gZ nwZ 0)))] := hD
            refine lv_aload_n hx hb dX3_count_79 rfl (lv_at hl 1 rfl) ?_
            refine lv_dup hx hb dX3_count_80 rfl ?_
            refine va_get (D := D) (ci := 3) (v := .int (nI nwZ)) (C := RX3) (T := TX3) (N := 16) hx hb hts (fun _ h => List.mem_cons_of_mem _ (List.mem_append_right _ h)) hown hK hP 0 rfl rfl 9 (by decide) (hts (.fieldLink RX3 88 "MapsByUseModel" "many" "I") (List.mem_of_getElem? (i := 2) (by decide +kernel))) (fun _ h9 => h9) rfl dX3_count_81 ?_
            refine lv_iconst (v := 1) hx hb dX3_count_84 (by decide) ?_
            refine lv_iadd hx hb dX3_count_85 ?_
            refine m_topi (y := (nI (nwZ + 1))) (by exact nI_1 nwZ) ?_
            refine va_put (D := D) (ci := 3) (v := .int (nI (nwZ + 1))) (ty := .int) (C := RX3) (T := TX3) (N := 16) hx hb hts (fun _ h => List.mem_cons_of_mem _ (List.mem_append_right _ h)) tyX3 tyX3_ok nmX3 hown hK hP hD hS 0 rfl rfl 9 (by decide) (hts (.fieldLink RX3 88 "MapsByUseModel" "many" "I") (List.mem_of_getElem? (i := 2) (by decide +kernel))) (fun _ h9 => h9) rfl (by decide +kernel) rfl rfl (Nat.le_of_ble_eq_true rfl) dX3_count_86 (fun H locs hP hD hS => ?_)
            have hP : va_P D vwCl [(yZ, .inr (3, [.ref akZ, .ref avZ, .ref awZ, .ref aoZ, .ref amZ, .ref lkZ, .ref lvZ, .ref luZ, .int ipZ, .int (nI (nwZ + 1)), .int imZ, .int ilZ, .int irZ, .int iuZ, .int iaZ, .int 0])), (awZ, .inl (I, 200, .inl (upd fZ nwZ wZ))), (aoZ, .inl (I, 200, .inl (upd gZ nwZ 0)))] H := hP
            have hD : va_D A [(yZ, .inr (3, [.ref akZ, .ref avZ, .ref awZ, .ref aoZ, .ref amZ, .ref lkZ, .ref lvZ, .ref luZ, .int ipZ, .int (nI (nwZ + 1)), .int imZ, .int ilZ, .int irZ, .int iuZ, .int iaZ, .int 0])), (awZ, .inl (I, 200, .inl (upd fZ nwZ wZ))), (aoZ, .inl (I, 200, .inl (upd gZ nwZ 0)))] := hD
            refine lv_aload_n hx hb dX3_count_89 rfl (lv_at hl 1 rfl) ?_
            refine va_get (D := D) (ci := 3) (v := .ref aoZ) (C := RX3) (T := TX3) (N := 16) hx hb hts (fun _ h => List.mem_cons_of_mem _ (List.mem_append_right _ h)) hown hK hP 0 rfl rfl 3 (by decide) (hts (.fieldLink RX3 19 "MapsByUseModel" "often" "[I") (List.mem_of_getElem? (i := 3) (by decide +kernel))) (fun _ h9 => h9) rfl dX3_count_90 ?_
            refine lv_iload_n hx hb dX3_count_93 rfl (lv_at hl 0 rfl) ?_
            refine lv_dup2_11 hx hb dX3_count_94 rfl rfl ?_
            refine m_iald (D := D) (cl := vwCl) hx hb hK hP 2 0 (j := nwZ) rfl rfl (by rfl) (by omega) (by omega) dX3_count_95 ?_
            refine m_topi (y := 0) (by exact upd_at _ _ _) ?_
            refine lv_iconst (v := 1) hx hb dX3_count_96 (by decide) ?_
            refine lv_iadd hx hb dX3_count_97 ?_
            refine m_topi (y := (0 + 1)) (by rfl) ?_
            refine m_iast (D := D) (cl := vwCl) hx hb hK hP hD hS 2 0 (j := nwZ) rfl rfl (by rfl) (by omega) (by omega) dX3_count_98 (fun H locs hP hD hS => ?_)
            have hP : va_P D vwCl [(yZ, .inr (3, [.ref akZ, .ref avZ, .ref awZ, .ref aoZ, .ref amZ, .ref lkZ, .ref lvZ, .ref luZ, .int ipZ, .int (nI (nwZ + 1)), .int imZ, .int ilZ, .int irZ, .int iuZ, .int iaZ, .int 0])), (awZ, .inl (I, 200, .inl (upd fZ nwZ wZ))), (aoZ, .inl (I, 200, .inl (upd (upd gZ nwZ 0) nwZ (0 + 1))))] H := hP
            have hD : va_D A [(yZ, .inr (3, [.ref akZ, .ref avZ, .ref awZ, .ref aoZ, .ref amZ, .ref lkZ, .ref lvZ, .ref luZ, .int ipZ, .int (nI (nwZ + 1)), .int imZ, .int ilZ, .int irZ, .int iuZ, .int iaZ, .int 0])), (awZ, .inl (I, 200, .inl (upd fZ nwZ wZ))), (aoZ, .inl (I, 200, .inl (upd (upd gZ nwZ 0) nwZ (0 + 1))))] := hD
            refine lv_aload_n hx hb dX3_count_99 rfl (lv_at hl 1 rfl) ?_
            refine va_get (D := D) (ci := 3) (v := .ref aoZ) (C := RX3) (T := TX3) (N := 16) hx hb hts (fun _ h => List.mem_cons_of_mem _ (List.mem_append_right _ h)) hown hK hP 0 rfl rfl 3 (by decide) (hts (.fieldLink RX3 19 "MapsByUseModel" "often" "[I") (List.mem_of_getElem? (i := 3) (by decide +kernel))) (fun _ h9 => h9) rfl dX3_count_100 ?_
            refine lv_iload_n hx hb dX3_count_103 rfl (lv_at hl 0 rfl) ?_
            refine m_iald (D := D) (cl := vwCl) hx hb hK hP 2 0 (j := nwZ) rfl rfl (by rfl) (by omega) (by omega) dX3_count_104 ?_
            refine m_topi (y := (0 + 1)) (by exact upd_at _ _ _) ?_
            have hEq : [(yZ, .inr (3, [.ref akZ, .ref avZ, .ref awZ, .ref aoZ, .ref amZ, .ref lkZ, .ref lvZ, .ref luZ, .int ipZ, .int (nI (nwZ + 1)), .int imZ, .int ilZ, .int irZ, .int iuZ, .int iaZ, .int 0])), (awZ, .inl (I, 200, .inl (upd fZ nwZ wZ))), (aoZ, .inl (I, 200, .inl (upd (upd gZ nwZ 0) nwZ (0 + 1))))] = ([(yZ, .inr (3, [.ref akZ, .ref avZ, .ref awZ, .ref aoZ, .ref amZ, .ref lkZ, .ref lvZ, .ref luZ, .int ipZ, .int (nI (insN nwZ (rL fZ wZ nwZ))), .int imZ, .int ilZ, .int irZ, .int iuZ, .int iaZ, .int 0])), (awZ, .inl (I, 200, .inl (insF fZ nwZ wZ (rL fZ wZ nwZ)))), (aoZ, .inl (I, 200, .inl (insG gZ nwZ (orO gZ 0 (rL fZ wZ nwZ) + 1) (rL fZ wZ nwZ))))] : va_W) := (by rw [ho, upd_upd]; rfl)
            rw [hEq] at hP hD
            refine m_iret () hx hb hr hlocks hP hD hS dX3_count_105 (by first | exact Nat.le_of_ble_eq_true rfl | omega) (by first | exact Nat.le_of_ble_eq_true rfl | omega) ?_
            rw [ho]; rfl
        · --22T30F40T51F
          exact absurd (by decide) c_51
      · --22T30F40F
        exact absurd c_40 (fun q9 => by have hh := (nI_eq (b := 200) (by omega) (by omega)).mp q9; have hl9 := hnew (iO_ge c_30 (rL_lt (by omega))); omega)
  · --22F
    exact absurd c_22 (by rw [hwd]; decide)

set_option maxHeartbeats 4000000 in
set_option maxRecDepth 100000 in
theorem c_X3_count_F1 (l : Launch) (D : va_G) (I J : ClassId) (sz : Nat) (yZ : Nat) (akZ : Nat) (avZ : Nat) (awZ : Nat) (aoZ : Nat) (amZ : Nat) (lkZ : Nat) (lvZ : Nat) (luZ : Nat) (ipZ : Int32) (nwZ : Nat) (imZ : Int32) (ilZ : Int32) (irZ : Int32) (iuZ : Int32) (iaZ : Int32) (icZ : Int32) (fZ : Nat → Int32) (wZ : Int32) (hwd : (decide ((0 : Int32) ≤ wZ) && decide (wZ ≤ 18277)) = false) (hnw : nwZ ≤ 200) : mCi l yX3_count wsX3_count 1 24 0 0 D I J [.ref yZ, .int wZ] [(yZ, .inr (3, [.ref akZ, .ref avZ, .ref awZ, .ref aoZ, .ref amZ, .ref lkZ, .ref lvZ, .ref luZ, .int ipZ, .int (nI nwZ), .int imZ, .int ilZ, .int irZ, .int iuZ, .int iaZ, .int icZ])), (awZ, .inl (I, 200, .inl fZ))] sz (fun (x : Int32) (u : Unit) => x = 0) (fun (u : Unit) => [(yZ, .inr (3, [.ref akZ, .ref avZ, .ref awZ, .ref aoZ, .ref amZ, .ref lkZ, .ref lvZ, .ref luZ, .int ipZ, .int (nI nwZ), .int imZ, .int ilZ, .int irZ, .int iuZ, .int iaZ, .int 1])), (awZ, .inl (I, 200, .inl fZ))]) := by
  refine m_ofi (cc := cX3_count) (maxL := 3) (ret := (some .int)) (by decide) rfl (Nat.le_of_ble_eq_true rfl) ?_
  intro p e s m args below meth c A ls hx hb hr hlocks hml hts hown hin hK hP hD hA hS hl
  have hl : lv_has ls 3 [(0, .ref yZ), (1, .int wZ)] := hl
  have hP : va_P D vwCl [(yZ, .inr (3, [.ref akZ, .ref avZ, .ref awZ, .ref aoZ, .ref amZ, .ref lkZ, .ref lvZ, .ref luZ, .int ipZ, .int (nI nwZ), .int imZ, .int ilZ, .int irZ, .int iuZ, .int iaZ, .int icZ])), (awZ, .inl (I, 200, .inl fZ))] s.heap := hP
  have hD : va_D A [(yZ, .inr (3, [.ref akZ, .ref avZ, .ref awZ, .ref aoZ, .ref amZ, .ref lkZ, .ref lvZ, .ref luZ, .int ipZ, .int (nI nwZ), .int imZ, .int ilZ, .int irZ, .int iuZ, .int iaZ, .int icZ])), (awZ, .inl (I, 200, .inl fZ))] := hD
  refine lv_aload_n hx hb dX3_count_0 rfl (lv_at hl 0 rfl) ?_
  refine va_get (D := D) (ci := 3) (v := .ref awZ) (C := RX3) (T := TX3) (N := 16) hx hb hts (fun _ h => List.mem_cons_of_mem _ (List.mem_append_right _ h)) hown hK hP 0 rfl rfl 2 (by decide) (hts (.fieldLink RX3 16 "MapsByUseModel" "told" "[I") (List.mem_of_getElem? (i := 1) (by decide +kernel))) (fun _ h9 => h9) rfl dX3_count_1 ?_
  refine lv_aload_n hx hb dX3_count_4 rfl (lv_at hl 0 rfl) ?_
  refine va_get (D := D) (ci := 3) (v := .int (nI nwZ)) (C := RX3) (T := TX3) (N := 16) hx hb hts (fun _ h => List.mem_cons_of_mem _ (List.mem_append_right _ h)) hown hK hP 0 rfl rfl 9 (by decide) (hts (.fieldLink RX3 88 "MapsByUseModel" "many" "I") (List.mem_of_getElem? (i := 2) (by decide +kernel))) (fun _ h9 => h9) rfl dX3_count_5 ?_
  refine lv_iload_n hx hb dX3_count_8 rfl (lv_at hl 1 rfl) ?_
  refine m_Si (As := [.ref awZ, .int (nI nwZ), .int wZ]) (wr := [(yZ, .inr (3, [.ref akZ, .ref avZ, .ref awZ, .ref aoZ, .ref amZ, .ref lkZ, .ref lvZ, .ref luZ, .int ipZ, .int (nI nwZ), .int imZ, .int ilZ, .int irZ, .int iuZ, .int iaZ, .int icZ]))]) (ws2 := fun _ => [(yZ, .inr (3, [.ref akZ, .ref avZ, .ref awZ, .ref aoZ, .ref amZ, .ref lkZ, .ref lvZ, .ref luZ, .int ipZ, .int (nI nwZ), .int imZ, .int ilZ, .int irZ, .int iuZ, .int iaZ, .int icZ])), (awZ, .inl (I, 200, .inl fZ))]) ⟨hx, hb, hml, hown, hts⟩ hA hK hP hD hS hl.1 (c_X3_find l D I J s.heap.size awZ 200 fZ nwZ wZ (by omega) (by omega)) (cwS 3 hts gX3_count_X3_find rfl rfl rfl (by decide +kernel) ⟨Nat.le_of_ble_eq_true rfl, Nat.le_of_ble_eq_true rfl⟩) [1] [0] [0, 1] rfl rfl (by decide) (by decide) (by decide) (by decide) (fun _ => rfl) rfl rfl (Nat.le_of_ble_eq_true rfl) dX3_count_9 ⟨(by exact Nat.le_of_ble_eq_true rfl), (by exact Nat.le_of_ble_eq_true rfl)⟩ (fun r_9 u_9 H locs hw_9 hP hD hS => ?_)
  try dsimp only at hw_9
  have hP : va_P D vwCl [(yZ, .inr (3, [.ref akZ, .ref avZ, .ref awZ, .ref aoZ, .ref amZ, .ref lkZ, .ref lvZ, .ref luZ, .int ipZ, .int (nI nwZ), .int imZ, .int ilZ, .int irZ, .int iuZ, .int iaZ, .int icZ])), (awZ, .inl (I, 200, .inl fZ))] H := hP
  have hD : va_D A [(yZ, .inr (3, [.ref akZ, .ref avZ, .ref awZ, .ref aoZ, .ref amZ, .ref lkZ, .ref lvZ, .ref luZ, .int ipZ, .int (nI nwZ), .int imZ, .int ilZ, .int irZ, .int iuZ, .int iaZ, .int icZ])), (awZ, .inl (I, 200, .inl fZ))] := hD
  subst hw_9
  refine lv_istore_n (lv' := [(2, .int (iO (rL fZ wZ nwZ))), (0, .ref yZ), (1, .int wZ)]) hx hb dX3_count_12 rfl hl (by decide) rfl (fun ls hl => ?_)
  refine lv_aload_n hx hb dX3_count_13 rfl (lv_at hl 1 rfl) ?_
  refine lv_iload_n hx hb dX3_count_14 rfl (lv_at hl 2 rfl) ?_
  refine lv_iconst (v := 0) hx hb dX3_count_15 (by decide) ?_
  refine lv_sipush (v := 18277) hx hb dX3_count_16 (by decide) ?_
  refine m_Si (As := [.int wZ, .int 0, .int 18277]) (wr := [(yZ, .inr (3, [.ref akZ, .ref avZ, .ref awZ, .ref aoZ, .ref amZ, .ref lkZ, .ref lvZ, .ref luZ, .int ipZ, .int (nI nwZ), .int imZ, .int ilZ, .int irZ, .int iuZ, .int iaZ, .int icZ])), (awZ, .inl (I, 200, .inl fZ))]) (ws2 := fun _ => [(yZ, .inr (3, [.ref akZ, .ref avZ, .ref awZ, .ref aoZ, .ref amZ, .ref lkZ, .ref lvZ, .ref luZ, .int ipZ, .int (nI nwZ), .int imZ, .int ilZ, .int irZ, .int iuZ, .int iaZ, .int icZ])), (awZ, .inl (I, 200, .inl fZ))]) ⟨hx, hb, hml, hown, hts⟩ hA hK hP hD hS hl.1 (c_X3_in l D I J H.size wZ 0 18277 ) (cwS 3 hts gX3_count_X3_in rfl rfl rfl (by decide +kernel) ⟨Nat.le_of_ble_eq_true rfl, Nat.le_of_ble_eq_true rfl⟩) [] [0, 1] [0, 1] rfl rfl (by decide) (by decide) (by decide) (by decide) (fun _ => rfl) rfl rfl (Nat.le_of_ble_eq_true rfl) dX3_count_19 ⟨(by exact Nat.le_of_ble_eq_true rfl), (by exact Nat.le_of_ble_eq_true rfl)⟩ (fun r_19 u_19 H locs hw_19 hP hD hS => ?_)
  try dsimp only at hw_19
  have hP : va_P D vwCl [(yZ, .inr (3, [.ref akZ, .ref avZ, .ref awZ, .ref aoZ, .ref amZ, .ref lkZ, .ref lvZ, .ref luZ, .int ipZ, .int (nI nwZ), .int imZ, .int ilZ, .int irZ, .int iuZ, .int iaZ, .int icZ])), (awZ, .inl (I, 200, .inl fZ))] H := hP
  have hD : va_D A [(yZ, .inr (3, [.ref akZ, .ref avZ, .ref awZ, .ref aoZ, .ref amZ, .ref lkZ, .ref lvZ, .ref luZ, .int ipZ, .int (nI nwZ), .int imZ, .int ilZ, .int irZ, .int iuZ, .int iaZ, .int icZ])), (awZ, .inl (I, 200, .inl fZ))] := hD
  subst hw_19
  refine lv_if_ne (tgt := 29) hx hb dX3_count_22 (by decide) (fun c_22 => ?_) (fun c_22 => ?_)
  · --22T
    exact absurd (by rw [hwd]; rfl) c_22
  · --22F
    refine lv_iconst (v := 1) hx hb dX3_count_25 (by decide) ?_
    refine lv_goto (tgt := 48) hx hb dX3_count_26 (by decide) ?_
    refine m_Vi (As := [.int 1]) (wr := [(awZ, .inl (I, 200, .inl fZ))]) (ws2 := fun _ => [(yZ, .inr (3, [.ref akZ, .ref avZ, .ref awZ, .ref aoZ, .ref amZ, .ref lkZ, .ref lvZ, .ref luZ, .int ipZ, .int (nI nwZ), .int imZ, .int ilZ, .int irZ, .int iuZ, .int iaZ, .int 1])), (awZ, .inl (I, 200, .inl fZ))]) ⟨hx, hb, hml, hown, hts⟩ hA hK hP hD hS hl.1 (c_X3_fails l D I J H.size yZ akZ avZ awZ aoZ amZ lkZ lvZ luZ ipZ (nI nwZ) imZ ilZ irZ iuZ iaZ icZ 1 ) (cwV 1 hts gX3_count_X3_fails rfl rfl rfl (by decide +kernel) ⟨Nat.le_of_ble_eq_true rfl, Nat.le_of_ble_eq_true rfl⟩) [0] [1] [1, 0] 0 3 rfl rfl rfl rfl rfl (by decide) (by decide) (by decide) (by decide) (fun _ => rfl) rfl rfl (Nat.le_of_ble_eq_true rfl) dX3_count_48 ⟨(by exact Nat.le_of_ble_eq_true rfl), (by exact Nat.le_of_ble_eq_true rfl)⟩ (fun r_48 u_48 H locs hw_48 hP hD hS => ?_)
    try dsimp only at hw_48
    have hP : va_P D vwCl [(yZ, .inr (3, [.ref akZ, .ref avZ, .ref awZ, .ref aoZ, .ref amZ, .ref lkZ, .ref lvZ, .ref luZ, .int ipZ, .int (nI nwZ), .int imZ, .int ilZ, .int irZ, .int iuZ, .int iaZ, .int 1])), (awZ, .inl (I, 200, .inl fZ))] H := hP
    have hD : va_D A [(yZ, .inr (3, [.ref akZ, .ref avZ, .ref awZ, .ref aoZ, .ref amZ, .ref lkZ, .ref lvZ, .ref luZ, .int ipZ, .int (nI nwZ), .int imZ, .int ilZ, .int irZ, .int iuZ, .int iaZ, .int 1])), (awZ, .inl (I, 200, .inl fZ))] := hD
    subst hw_48
    refine lv_if_eq (tgt := 56) hx hb dX3_count_51 (by decide) (fun c_51 => ?_) (fun c_51 => ?_)
    · --22F51T
      exact absurd c_51 (by decide)
    · --22F51F
      refine lv_iconst (v := 0) hx hb dX3_count_54 (by decide) ?_
      refine m_iret () hx hb hr hlocks hP hD hS dX3_count_55 (by first | exact Nat.le_of_ble_eq_true rfl | omega) (by first | exact Nat.le_of_ble_eq_true rfl | omega) ?_
      rfl

set_option maxHeartbeats 4000000 in
set_option maxRecDepth 100000 in
theorem c_X3_count_F2 (l : Launch) (D : va_G) (I J : ClassId) (sz : Nat) (yZ : Nat) (akZ : Nat) (avZ : Nat) (awZ : Nat) (aoZ : Nat) (amZ : Nat) (lkZ : Nat) (lvZ : Nat) (luZ : Nat) (ipZ : Int32) (nwZ : Nat) (imZ : Int32) (ilZ : Int32) (irZ : Int32) (iuZ : Int32) (iaZ : Int32) (icZ : Int32) (fZ : Nat → Int32) (wZ : Int32) (hwd : (decide ((0 : Int32) ≤ wZ) && decide (wZ ≤ 18277)) = true) (hnone : rL fZ wZ nwZ = none) (hfull : nwZ = 200) : mCi l yX3_count wsX3_count 1 24 0 0 D I J [.ref yZ, .int wZ] [(yZ, .inr (3, [.ref akZ, .ref avZ, .ref awZ, .ref aoZ, .ref amZ, .ref lkZ, .ref lvZ, .ref luZ, .int ipZ, .int (nI nwZ), .int imZ, .int ilZ, .int irZ, .int iuZ, .int iaZ, .int icZ])), (awZ, .inl (I, 200, .inl fZ))] sz (fun (x : Int32) (u : Unit) => x = 0) (fun (u : Unit) => [(yZ, .inr (3, [.ref akZ, .ref avZ, .ref awZ, .ref aoZ, .ref amZ, .ref lkZ, .ref lvZ, .ref luZ, .int ipZ, .int (nI nwZ), .int imZ, .int ilZ, .int irZ, .int iuZ, .int iaZ, .int 2])), (awZ, .inl (I, 200, .inl fZ))]) := by
  refine m_ofi (cc := cX3_count) (maxL := 3) (ret := (some .int)) (by decide) rfl (Nat.le_of_ble_eq_true rfl) ?_
  intro p e s m args below meth c A ls hx hb hr hlocks hml hts hown hin hK hP hD hA hS hl
  have hl : lv_has ls 3 [(0, .ref yZ), (1, .int wZ)] := hl
  have hP : va_P D vwCl [(yZ, .inr (3, [.ref akZ, .ref avZ, .ref awZ, .ref aoZ, .ref amZ, .ref lkZ, .ref lvZ, .ref luZ, .int ipZ, .int (nI nwZ), .int imZ, .int ilZ, .int irZ, .int iuZ, .int iaZ, .int icZ])), (awZ, .inl (I, 200, .inl fZ))] s.heap := hP
  have hD : va_D A [(yZ, .inr (3, [.ref akZ, .ref avZ, .ref awZ, .ref aoZ, .ref amZ, .ref lkZ, .ref lvZ, .ref luZ, .int ipZ, .int (nI nwZ), .int imZ, .int ilZ, .int irZ, .int iuZ, .int iaZ, .int icZ])), (awZ, .inl (I, 200, .inl fZ))] := hD
  refine lv_aload_n hx hb dX3_count_0 rfl (lv_at hl 0 rfl) ?_
  refine va_get (D := D) (ci := 3) (v := .ref awZ) (C := RX3) (T := TX3) (N := 16) hx hb hts (fun _ h => List.mem_cons_of_mem _ (List.mem_append_right _ h)) hown hK hP 0 rfl rfl 2 (by decide) (hts (.fieldLink RX3 16 "MapsByUseModel" "told" "[I") (List.mem_of_getElem? (i := 1) (by decide +kernel))) (fun _ h9 => h9) rfl dX3_count_1 ?_
  refine lv_aload_n hx hb dX3_count_4 rfl (lv_at hl 0 rfl) ?_
  refine va_get (D := D) (ci := 3) (v := .int (nI nwZ)) (C := RX3) (T := TX3) (N := 16) hx hb hts (fun _ h => List.mem_cons_of_mem _ (List.mem_append_right _ h)) hown hK hP 0 rfl rfl 9 (by decide) (hts (.fieldLink RX3 88 "MapsByUseModel" "many" "I") (List.mem_of_getElem? (i := 2) (by decide +kernel))) (fun _ h9 => h9) rfl dX3_count_5 ?_
  refine lv_iload_n hx hb dX3_count_8 rfl (lv_at hl 1 rfl) ?_
  refine m_Si (As := [.ref awZ, .int (nI nwZ), .int wZ]) (wr := [(yZ, .inr (3, [.ref akZ, .ref avZ, .ref awZ, .ref aoZ, .ref amZ, .ref lkZ, .ref lvZ, .ref luZ, .int ipZ, .int (nI nwZ), .int imZ, .int ilZ, .int irZ, .int iuZ, .int iaZ, .int icZ]))]) (ws2 := fun _ => [(yZ, .inr (3, [.ref akZ, .ref avZ, .ref awZ, .ref aoZ, .ref amZ, .ref lkZ, .ref lvZ, .ref luZ, .int ipZ, .int (nI nwZ), .int imZ, .int ilZ, .int irZ, .int iuZ, .int iaZ, .int icZ])), (awZ, .inl (I, 200, .inl fZ))]) ⟨hx, hb, hml, hown, hts⟩ hA hK hP hD hS hl.1 (c_X3_find l D I J s.heap.size awZ 200 fZ nwZ wZ (by omega) (by omega)) (cwS 3 hts gX3_count_X3_find rfl rfl rfl (by decide +kernel) ⟨Nat.le_of_ble_eq_true rfl, Nat.le_of_ble_eq_true rfl⟩) [1] [0] [0, 1] rfl rfl (by decide) (by decide) (by decide) (by decide) (fun _ => rfl) rfl rfl (Nat.le_of_ble_eq_true rfl) dX3_count_9 ⟨(by exact Nat.le_of_ble_eq_true rfl), (by exact Nat.le_of_ble_eq_true rfl)⟩ (fun r_9 u_9 H locs hw_9 hP hD hS => ?_)
  try dsimp only at hw_9
  have hP : va_P D vwCl [(yZ, .inr (3, [.ref akZ, .ref avZ, .ref awZ, .ref aoZ, .ref amZ, .ref lkZ, .ref lvZ, .ref luZ, .int ipZ, .int (nI nwZ), .int imZ, .int ilZ, .int irZ, .int iuZ, .int iaZ, .int icZ])), (awZ, .inl (I, 200, .inl fZ))] H := hP
  have hD : va_D A [(yZ, .inr (3, [.ref akZ, .ref avZ, .ref awZ, .ref aoZ, .ref amZ, .ref lkZ, .ref lvZ, .ref luZ, .int ipZ, .int (nI nwZ), .int imZ, .int ilZ, .int irZ, .int iuZ, .int iaZ, .int icZ])), (awZ, .inl (I, 200, .inl fZ))] := hD
  subst hw_9
  refine lv_istore_n (lv' := [(2, .int (iO (rL fZ wZ nwZ))), (0, .ref yZ), (1, .int wZ)]) hx hb dX3_count_12 rfl hl (by decide) rfl (fun ls hl => ?_)
  refine lv_aload_n hx hb dX3_count_13 rfl (lv_at hl 1 rfl) ?_
  refine lv_iload_n hx hb dX3_count_14 rfl (lv_at hl 2 rfl) ?_
  refine lv_iconst (v := 0) hx hb dX3_count_15 (by decide) ?_
  refine lv_sipush (v := 18277) hx hb dX3_count_16 (by decide) ?_
  refine m_Si (As := [.int wZ, .int 0, .int 18277]) (wr := [(yZ, .inr (3, [.ref akZ, .ref avZ, .ref awZ, .ref aoZ, .ref amZ, .ref lkZ, .ref lvZ, .ref luZ, .int ipZ, .int (nI nwZ), .int imZ, .int ilZ, .int irZ, .int iuZ, .int iaZ, .int icZ])), (awZ, .inl (I, 200, .inl fZ))]) (ws2 := fun _ => [(yZ, .inr (3, [.ref akZ, .ref avZ, .ref awZ, .ref aoZ, .ref amZ, .ref lkZ, .ref lvZ, .ref luZ, .int ipZ, .int (nI nwZ), .int imZ, .int ilZ, .int irZ, .int iuZ, .int iaZ, .int icZ])), (awZ, .inl (I, 200, .inl fZ))]) ⟨hx, hb, hml, hown, hts⟩ hA hK hP hD hS hl.1 (c_X3_in l D I J H.size wZ 0 18277 ) (cwS 3 hts gX3_count_X3_in rfl rfl rfl (by decide +kernel) ⟨Nat.le_of_ble_eq_true rfl, Nat.le_of_ble_eq_true rfl⟩) [] [0, 1] [0, 1] rfl rfl (by decide) (by decide) (by decide) (by decide) (fun _ => rfl) rfl rfl (Nat.le_of_ble_eq_true rfl) dX3_count_19 ⟨(by exact Nat.le_of_ble_eq_true rfl), (by exact Nat.le_of_ble_eq_true rfl)⟩ (fun r_19 u_19 H locs hw_19 hP hD hS => ?_)
  try dsimp only at hw_19
  have hP : va_P D vwCl [(yZ, .inr (3, [.ref akZ, .ref avZ, .ref awZ, .ref aoZ, .ref amZ, .ref lkZ, .ref lvZ, .ref luZ, .int ipZ, .int (nI nwZ), .int imZ, .int ilZ, .int irZ, .int iuZ, .int iaZ, .int icZ])), (awZ, .inl (I, 200, .inl fZ))] H := hP
  have hD : va_D A [(yZ, .inr (3, [.ref akZ, .ref avZ, .ref awZ, .ref aoZ, .ref amZ, .ref lkZ, .ref lvZ, .ref luZ, .int ipZ, .int (nI nwZ), .int imZ, .int ilZ, .int irZ, .int iuZ, .int iaZ, .int icZ])), (awZ, .inl (I, 200, .inl fZ))] := hD
  subst hw_19
  refine lv_if_ne (tgt := 29) hx hb dX3_count_22 (by decide) (fun c_22 => ?_) (fun c_22 => ?_)
  · --22T
    refine lv_iload_n hx hb dX3_count_29 rfl (lv_at hl 0 rfl) ?_
    refine lv_if_ge (tgt := 47) hx hb dX3_count_30 (by decide) (fun c_30 => ?_) (fun c_30 => ?_)
    · --22T30T
      exact absurd c_30 (by rw [hnone]; decide)
    · --22T30F
      refine lv_aload_n hx hb dX3_count_33 rfl (lv_at hl 1 rfl) ?_
      refine va_get (D := D) (ci := 3) (v := .int (nI nwZ)) (C := RX3) (T := TX3) (N := 16) hx hb hts (fun _ h => List.mem_cons_of_mem _ (List.mem_append_right _ h)) hown hK hP 0 rfl rfl 9 (by decide) (hts (.fieldLink RX3 88 "MapsByUseModel" "many" "I") (List.mem_of_getElem? (i := 2) (by decide +kernel))) (fun _ h9 => h9) rfl dX3_count_34 ?_
      refine lv_sipush (v := 200) hx hb dX3_count_37 (by decide) ?_
      refine lv_icmp_ne (tgt := 47) hx hb dX3_count_40 (by decide) (fun c_40 => ?_) (fun c_40 => ?_)
      · --22T30F40T
        exact absurd (by rw [hfull]; rfl) c_40
      · --22T30F40F
        refine lv_iconst (v := 2) hx hb dX3_count_43 (by decide) ?_
        refine lv_goto (tgt := 48) hx hb dX3_count_44 (by decide) ?_
        refine m_Vi (As := [.int 2]) (wr := [(awZ, .inl (I, 200, .inl fZ))]) (ws2 := fun _ => [(yZ, .inr (3, [.ref akZ, .ref avZ, .ref awZ, .ref aoZ, .ref amZ, .ref lkZ, .ref lvZ, .ref luZ, .int ipZ, .int (nI nwZ), .int imZ, .int ilZ, .int irZ, .int iuZ, .int iaZ, .int 2])), (awZ, .inl (I, 200, .inl fZ))]) ⟨hx, hb, hml, hown, hts⟩ hA hK hP hD hS hl.1 (c_X3_fails l D I J H.size yZ akZ avZ awZ aoZ amZ lkZ lvZ luZ ipZ (nI nwZ) imZ ilZ irZ iuZ iaZ icZ 2 ) (cwV 1 hts gX3_count_X3_fails rfl rfl rfl (by decide +kernel) ⟨Nat.le_of_ble_eq_true rfl, Nat.le_of_ble_eq_true rfl⟩) [0] [1] [1, 0] 0 3 rfl rfl rfl rfl rfl (by decide) (by decide) (by decide) (by decide) (fun _ => rfl) rfl rfl (Nat.le_of_ble_eq_true rfl) dX3_count_48 ⟨(by exact Nat.le_of_ble_eq_true rfl), (by exact Nat.le_of_ble_eq_true rfl)⟩ (fun r_48 u_48 H locs hw_48 hP hD hS => ?_)
        try dsimp only at hw_48
        have hP : va_P D vwCl [(yZ, .inr (3, [.ref akZ, .ref avZ, .ref awZ, .ref aoZ, .ref amZ, .ref lkZ, .ref lvZ, .ref luZ, .int ipZ, .int (nI nwZ), .int imZ, .int ilZ, .int irZ, .int iuZ, .int iaZ, .int 2])), (awZ, .inl (I, 200, .inl fZ))] H := hP
        have hD : va_D A [(yZ, .inr (3, [.ref akZ, .ref avZ, .ref awZ, .ref aoZ, .ref amZ, .ref lkZ, .ref lvZ, .ref luZ, .int ipZ, .int (nI nwZ), .int imZ, .int ilZ, .int irZ, .int iuZ, .int iaZ, .int 2])), (awZ, .inl (I, 200, .inl fZ))] := hD
        subst hw_48
        refine lv_if_eq (tgt := 56) hx hb dX3_count_51 (by decide) (fun c_51 => ?_) (fun c_51 => ?_)
        · --22T30F40F51T
          exact absurd c_51 (by decide)
        · --22T30F40F51F
          refine lv_iconst (v := 0) hx hb dX3_count_54 (by decide) ?_
          refine m_iret () hx hb hr hlocks hP hD hS dX3_count_55 (by first | exact Nat.le_of_ble_eq_true rfl | omega) (by first | exact Nat.le_of_ble_eq_true rfl | omega) ?_
          rfl
  · --22F
    exact absurd c_22 (by rw [hwd]; decide)

set_option maxHeartbeats 4000000 in
set_option maxRecDepth 100000 in
theorem c_X3_timesOf (l : Launch) (D : va_G) (I J : ClassId) (sz : Nat) (yZ : Nat) (akZ : Nat) (avZ : Nat) (awZ : Nat) (aoZ : Nat) (amZ : Nat) (lkZ : Nat) (lvZ : Nat) (luZ : Nat) (ipZ : Int32) (nwZ : Nat) (imZ : Int32) (ilZ : Int32) (irZ : Int32) (iuZ : Int32) (iaZ : Int32) (icZ : Int32) (fZ : Nat → Int32) (gZ : Nat → Int32) (wZ : Int32) (hnw : nwZ ≤ 200) : mCi l yX3_timesOf wsX3_timesOf 1 24 0 0 D I J [.ref yZ, .int wZ] [(yZ, .inr (3, [.ref akZ, .ref avZ, .ref awZ, .ref aoZ, .ref amZ, .ref lkZ, .ref lvZ, .ref luZ, .int ipZ, .int (nI nwZ), .int imZ, .int ilZ, .int irZ, .int iuZ, .int iaZ, .int icZ])), (awZ, .inl (I, 200, .inl fZ)), (aoZ, .inl (I, 200, .inl gZ))] sz (fun (x : Int32) (u : Unit) => x = (orO gZ 0 (rL fZ wZ nwZ))) (fun (u : Unit) => [(yZ, .inr (3, [.ref akZ, .ref avZ, .ref awZ, .ref aoZ, .ref amZ, .ref lkZ, .ref lvZ, .ref luZ, .int ipZ, .int (nI nwZ), .int imZ, .int ilZ, .int irZ, .int iuZ, .int iaZ, .int icZ])), (awZ, .inl (I, 200, .inl fZ)), (aoZ, .inl (I, 200, .inl gZ))]) := by
  refine m_ofi (cc := cX3_timesOf) (maxL := 3) (ret := (some .int)) (by decide) rfl (Nat.le_of_ble_eq_true rfl) ?_
  intro p e s m args below meth c A ls hx hb hr hlocks hml hts hown hin hK hP hD hA hS hl
  have hl : lv_has ls 3 [(0, .ref yZ), (1, .int wZ)] := hl
  have hP : va_P D vwCl [(yZ, .inr (3, [.ref akZ, .ref avZ, .ref awZ, .ref aoZ, .ref amZ, .ref lkZ, .ref lvZ, .ref luZ, .int ipZ, .int (nI nwZ), .int imZ, .int ilZ, .int irZ, .int iuZ, .int iaZ, .int icZ])), (awZ, .inl (I, 200, .inl fZ)), (aoZ, .inl (I, 200, .inl gZ))] s.heap := hP
  have hD : va_D A [(yZ, .inr (3, [.ref akZ, .ref avZ, .ref awZ, .ref aoZ, .ref amZ, .ref lkZ, .ref lvZ, .ref luZ, .int ipZ, .int (nI nwZ), .int imZ, .int ilZ, .int irZ, .int iuZ, .int iaZ, .int icZ])), (awZ, .inl (I, 200, .inl fZ)), (aoZ, .inl (I, 200, .inl gZ))] := hD
  refine lv_aload_n hx hb dX3_timesOf_0 rfl (lv_at hl 0 rfl) ?_
  refine va_get (D := D) (ci := 3) (v := .ref awZ) (C := RX3) (T := TX3) (N := 16) hx hb hts (fun _ h => List.mem_cons_of_mem _ (List.mem_append_right _ h)) hown hK hP 0 rfl rfl 2 (by decide) (hts (.fieldLink RX3 16 "MapsByUseModel" "told" "[I") (List.mem_of_getElem? (i := 1) (by decide +kernel))) (fun _ h9 => h9) rfl dX3_timesOf_1 ?_
  refine lv_aload_n hx hb dX3_timesOf_4 rfl (lv_at hl 0 rfl) ?_
  refine va_get (D := D) (ci := 3) (v := .int (nI nwZ)) (C := RX3) (T := TX3) (N := 16) hx hb hts (fun _ h => List.mem_cons_of_mem _ (List.mem_append_right _ h)) hown hK hP 0 rfl rfl 9 (by decide) (hts (.fieldLink RX3 88 "MapsByUseModel" "many" "I") (List.mem_of_getElem? (i := 2) (by decide +kernel))) (fun _ h9 => h9) rfl dX3_timesOf_5 ?_
  refine lv_iload_n hx hb dX3_timesOf_8 rfl (lv_at hl 1 rfl) ?_
  refine m_Si (As := [.ref awZ, .int (nI nwZ), .int wZ]) (wr := [(yZ, .inr (3, [.ref akZ, .ref avZ, .ref awZ, .ref aoZ, .ref amZ, .ref lkZ, .ref lvZ, .ref luZ, .int ipZ, .int (nI nwZ), .int imZ, .int ilZ, .int irZ, .int iuZ, .int iaZ, .int icZ])), (aoZ, .inl (I, 200, .inl gZ))]) (ws2 := fun _ => [(yZ, .inr (3, [.ref akZ, .ref avZ, .ref awZ, .ref aoZ, .ref amZ, .ref lkZ, .ref lvZ, .ref luZ, .int ipZ, .int (nI nwZ), .int imZ, .int ilZ, .int irZ, .int iuZ, .int iaZ, .int icZ])), (awZ, .inl (I, 200, .inl fZ)), (aoZ, .inl (I, 200, .inl gZ))]) ⟨hx, hb, hml, hown, hts⟩ hA hK hP hD hS hl.1 (c_X3_find l D I J s.heap.size awZ 200 fZ nwZ wZ (by omega) (by omega)) (cwS 3 hts gX3_timesOf_X3_find rfl rfl rfl (by decide +kernel) ⟨Nat.le_of_ble_eq_true rfl, Nat.le_of_ble_eq_true rfl⟩) [1] [0, 2] [0, 2, 1] rfl rfl (by decide) (by decide) (by decide) (by decide) (fun _ => rfl) rfl rfl (Nat.le_of_ble_eq_true rfl) dX3_timesOf_9 ⟨(by exact Nat.le_of_ble_eq_true rfl), (by exact Nat.le_of_ble_eq_true rfl)⟩ (fun r_9 u_9 H locs hw_9 hP hD hS => ?_)
  try dsimp only at hw_9
  have hP : va_P D vwCl [(yZ, .inr (3, [.ref akZ, .ref avZ, .ref awZ, .ref aoZ, .ref amZ, .ref lkZ, .ref lvZ, .ref luZ, .int ipZ, .int (nI nwZ), .int imZ, .int ilZ, .int irZ, .int iuZ, .int iaZ, .int icZ])), (awZ, .inl (I, 200, .inl fZ)), (aoZ, .inl (I, 200, .inl gZ))] H := hP
  have hD : va_D A [(yZ, .inr (3, [.ref akZ, .ref avZ, .ref awZ, .ref aoZ, .ref amZ, .ref lkZ, .ref lvZ, .ref luZ, .int ipZ, .int (nI nwZ), .int imZ, .int ilZ, .int irZ, .int iuZ, .int iaZ, .int icZ])), (awZ, .inl (I, 200, .inl fZ)), (aoZ, .inl (I, 200, .inl gZ))] := hD
  subst hw_9
  refine lv_istore_n (lv' := [(2, .int (iO (rL fZ wZ nwZ))), (0, .ref yZ), (1, .int wZ)]) hx hb dX3_timesOf_12 rfl hl (by decide) rfl (fun ls hl => ?_)
  refine lv_iload_n hx hb dX3_timesOf_13 rfl (lv_at hl 0 rfl) ?_
  refine lv_if_ge (tgt := 21) hx hb dX3_timesOf_14 (by decide) (fun c_14 => ?_) (fun c_14 => ?_)
  · --14T
    obtain ⟨jZ, ho⟩ := iO_ges c_14
    have hj := (rL_some ho).1
    rw [ho] at hl
    refine lv_aload_n hx hb dX3_timesOf_21 rfl (lv_at hl 1 rfl) ?_
    refine va_get (D := D) (ci := 3) (v := .ref aoZ) (C := RX3) (T := TX3) (N := 16) hx hb hts (fun _ h => List.mem_cons_of_mem _ (List.mem_append_right _ h)) hown hK hP 0 rfl rfl 3 (by decide) (hts (.fieldLink RX3 19 "MapsByUseModel" "often" "[I") (List.mem_of_getElem? (i := 3) (by decide +kernel))) (fun _ h9 => h9) rfl dX3_timesOf_22 ?_
    refine lv_iload_n hx hb dX3_timesOf_25 rfl (lv_at hl 0 rfl) ?_
    refine m_iald (D := D) (cl := vwCl) hx hb hK hP 2 0 (j := jZ) rfl rfl (by rfl) (by omega) (by omega) dX3_timesOf_26 ?_
    refine m_iret () hx hb hr hlocks hP hD hS dX3_timesOf_27 (by first | exact Nat.le_of_ble_eq_true rfl | omega) (by first | exact Nat.le_of_ble_eq_true rfl | omega) ?_
    rw [ho]; rfl
  · --14F
    have ho : rL fZ wZ nwZ = none := iO_ge c_14 (rL_lt (by omega))
    refine lv_iconst (v := 0) hx hb dX3_timesOf_17 (by decide) ?_
    refine lv_goto (tgt := 27) hx hb dX3_timesOf_18 (by decide) ?_
    refine m_iret () hx hb hr hlocks hP hD hS dX3_timesOf_27 (by first | exact Nat.le_of_ble_eq_true rfl | omega) (by first | exact Nat.le_of_ble_eq_true rfl | omega) ?_
    rw [ho]; rfl

set_option maxHeartbeats 4000000 in
set_option maxRecDepth 100000 in
theorem c_X3_times (l : Launch) (D : va_G) (I J : ClassId) (sz : Nat) (yZ : Nat) (akZ : Nat) (avZ : Nat) (awZ : Nat) (aoZ : Nat) (amZ : Nat) (lkZ : Nat) (lvZ : Nat) (luZ : Nat) (ipZ : Int32) (nwZ : Nat) (imZ : Int32) (ilZ : Int32) (irZ : Int32) (iuZ : Int32) (iaZ : Int32) (icZ : Int32) (fZ : Nat → Int32) (gZ : Nat → Int32) (wZ : Int32) (hwd : (decide ((0 : Int32) ≤ wZ) && decide (wZ ≤ 18277)) = true) (hnw : nwZ ≤ 200) : mCi l yX3_times wsX3_times 2 46 0 0 D I J [.ref yZ, .int wZ] [(yZ, .inr (3, [.ref akZ, .ref avZ, .ref awZ, .ref aoZ, .ref amZ, .ref lkZ, .ref lvZ, .ref luZ, .int ipZ, .int (nI nwZ), .int imZ, .int ilZ, .int irZ, .int iuZ, .int iaZ, .int icZ])), (awZ, .inl (I, 200, .inl fZ)), (aoZ, .inl (I, 200, .inl gZ))] sz (fun (x : Int32) (u : Unit) => x = (orO gZ 0 (rL fZ wZ nwZ))) (fun (u : Unit) => [(yZ, .inr (3, [.ref akZ, .ref avZ, .ref awZ, .ref aoZ, .ref amZ, .ref lkZ, .ref lvZ, .ref luZ, .int ipZ, .int (nI nwZ), .int imZ, .int ilZ, .int irZ, .int iuZ, .int iaZ, .int 0])), (awZ, .inl (I, 200, .inl fZ)), (aoZ, .inl (I, 200, .inl gZ))]) := by
  refine m_ofi (cc := cX3_times) (maxL := 2) (ret := (some .int)) (by decide) rfl (Nat.le_of_ble_eq_true rfl) ?_
  intro p e s m args below meth c A ls hx hb hr hlocks hml hts hown hin hK hP hD hA hS hl
  have hl : lv_has ls 2 [(0, .ref yZ), (1, .int wZ)] := hl
  have hP : va_P D vwCl [(yZ, .inr (3, [.ref akZ, .ref avZ, .ref awZ, .ref aoZ, .ref amZ, .ref lkZ, .ref lvZ, .ref luZ, .int ipZ, .int (nI nwZ), .int imZ, .int ilZ, .int irZ, .int iuZ, .int iaZ, .int icZ])), (awZ, .inl (I, 200, .inl fZ)), (aoZ, .inl (I, 200, .inl gZ))] s.heap := hP
  have hD : va_D A [(yZ, .inr (3, [.ref akZ, .ref avZ, .ref awZ, .ref aoZ, .ref amZ, .ref lkZ, .ref lvZ, .ref luZ, .int ipZ, .int (nI nwZ), .int imZ, .int ilZ, .int irZ, .int iuZ, .int iaZ, .int icZ])), (awZ, .inl (I, 200, .inl fZ)), (aoZ, .inl (I, 200, .inl gZ))] := hD
  refine lv_aload_n hx hb dX3_times_0 rfl (lv_at hl 0 rfl) ?_
  refine lv_iload_n hx hb dX3_times_1 rfl (lv_at hl 1 rfl) ?_
  refine lv_iconst (v := 0) hx hb dX3_times_2 (by decide) ?_
  refine lv_sipush (v := 18277) hx hb dX3_times_3 (by decide) ?_
  refine m_Si (As := [.int wZ, .int 0, .int 18277]) (wr := [(yZ, .inr (3, [.ref akZ, .ref avZ, .ref awZ, .ref aoZ, .ref amZ, .ref lkZ, .ref lvZ, .ref luZ, .int ipZ, .int (nI nwZ), .int imZ, .int ilZ, .int irZ, .int iuZ, .int iaZ, .int icZ])), (awZ, .inl (I, 200, .inl fZ)), (aoZ, .inl (I, 200, .inl gZ))]) (ws2 := fun _ => [(yZ, .inr (3, [.ref akZ, .ref avZ, .ref awZ, .ref aoZ, .ref amZ, .ref lkZ, .ref lvZ, .ref luZ, .int ipZ, .int (nI nwZ), .int imZ, .int ilZ, .int irZ, .int iuZ, .int iaZ, .int icZ])), (awZ, .inl (I, 200, .inl fZ)), (aoZ, .inl (I, 200, .inl gZ))]) ⟨hx, hb, hml, hown, hts⟩ hA hK hP hD hS hl.1 (c_X3_in l D I J s.heap.size wZ 0 18277 ) (cwS 3 hts gX3_times_X3_in rfl rfl rfl (by decide +kernel) ⟨Nat.le_of_ble_eq_true rfl, Nat.le_of_ble_eq_true rfl⟩) [] [0, 1, 2] [0, 1, 2] rfl rfl (by decide) (by decide) (by decide) (by decide) (fun _ => rfl) rfl rfl (Nat.le_of_ble_eq_true rfl) dX3_times_6 ⟨(by exact Nat.le_of_ble_eq_true rfl), (by exact Nat.le_of_ble_eq_true rfl)⟩ (fun r_6 u_6 H locs hw_6 hP hD hS => ?_)
  try dsimp only at hw_6
  have hP : va_P D vwCl [(yZ, .inr (3, [.ref akZ, .ref avZ, .ref awZ, .ref aoZ, .ref amZ, .ref lkZ, .ref lvZ, .ref luZ, .int ipZ, .int (nI nwZ), .int imZ, .int ilZ, .int irZ, .int iuZ, .int iaZ, .int icZ])), (awZ, .inl (I, 200, .inl fZ)), (aoZ, .inl (I, 200, .inl gZ))] H := hP
  have hD : va_D A [(yZ, .inr (3, [.ref akZ, .ref avZ, .ref awZ, .ref aoZ, .ref amZ, .ref lkZ, .ref lvZ, .ref luZ, .int ipZ, .int (nI nwZ), .int imZ, .int ilZ, .int irZ, .int iuZ, .int iaZ, .int icZ])), (awZ, .inl (I, 200, .inl fZ)), (aoZ, .inl (I, 200, .inl gZ))] := hD
  subst hw_6
  refine lv_if_eq (tgt := 16) hx hb dX3_times_9 (by decide) (fun c_9 => ?_) (fun c_9 => ?_)
  · --9T
    exact absurd c_9 (by rw [hwd]; decide)
  · --9F
    refine lv_iconst (v := 0) hx hb dX3_times_12 (by decide) ?_
    refine lv_goto (tgt := 17) hx hb dX3_times_13 (by decide) ?_
    refine m_Vi (As := [.int 0]) (wr := [(awZ, .inl (I, 200, .inl fZ)), (aoZ, .inl (I, 200, .inl gZ))]) (ws2 := fun _ => [(yZ, .inr (3, [.ref akZ, .ref avZ, .ref awZ, .ref aoZ, .ref amZ, .ref lkZ, .ref lvZ, .ref luZ, .int ipZ, .int (nI nwZ), .int imZ, .int ilZ, .int irZ, .int iuZ, .int iaZ, .int 0])), (awZ, .inl (I, 200, .inl fZ)), (aoZ, .inl (I, 200, .inl gZ))]) ⟨hx, hb, hml, hown, hts⟩ hA hK hP hD hS hl.1 (c_X3_fails l D I J H.size yZ akZ avZ awZ aoZ amZ lkZ lvZ luZ ipZ (nI nwZ) imZ ilZ irZ iuZ iaZ icZ 0 ) (cwV 1 hts gX3_times_X3_fails rfl rfl rfl (by decide +kernel) ⟨Nat.le_of_ble_eq_true rfl, Nat.le_of_ble_eq_true rfl⟩) [0] [1, 2] [2, 0, 1] 0 3 rfl rfl rfl rfl rfl (by decide) (by decide) (by decide) (by decide) (fun _ => rfl) rfl rfl (Nat.le_of_ble_eq_true rfl) dX3_times_17 ⟨(by exact Nat.le_of_ble_eq_true rfl), (by exact Nat.le_of_ble_eq_true rfl)⟩ (fun r_17 u_17 H locs hw_17 hP hD hS => ?_)
    try dsimp only at hw_17
    have hP : va_P D vwCl [(yZ, .inr (3, [.ref akZ, .ref avZ, .ref awZ, .ref aoZ, .ref amZ, .ref lkZ, .ref lvZ, .ref luZ, .int ipZ, .int (nI nwZ), .int imZ, .int ilZ, .int irZ, .int iuZ, .int iaZ, .int 0])), (awZ, .inl (I, 200, .inl fZ)), (aoZ, .inl (I, 200, .inl gZ))] H := hP
    have hD : va_D A [(yZ, .inr (3, [.ref akZ, .ref avZ, .ref awZ, .ref aoZ, .ref amZ, .ref lkZ, .ref lvZ, .ref luZ, .int ipZ, .int (nI nwZ), .int imZ, .int ilZ, .int irZ, .int iuZ, .int iaZ, .int 0])), (awZ, .inl (I, 200, .inl fZ)), (aoZ, .inl (I, 200, .inl gZ))] := hD
    subst hw_17
    refine lv_if_eq (tgt := 27) hx hb dX3_times_20 (by decide) (fun c_20 => ?_) (fun c_20 => ?_)
    · --9F20T
      refine lv_aload_n hx hb dX3_times_27 rfl (lv_at hl 0 rfl) ?_
      refine lv_iload_n hx hb dX3_times_28 rfl (lv_at hl 1 rfl) ?_
      refine m_Vi (As := [.int wZ]) (wr := []) (ws2 := fun _ => [(yZ, .inr (3, [.ref akZ, .ref avZ, .ref awZ, .ref aoZ, .ref amZ, .ref lkZ, .ref lvZ, .ref luZ, .int ipZ, .int (nI nwZ), .int imZ, .int ilZ, .int irZ, .int iuZ, .int iaZ, .int 0])), (awZ, .inl (I, 200, .inl fZ)), (aoZ, .inl (I, 200, .inl gZ))]) ⟨hx, hb, hml, hown, hts⟩ hA hK hP hD hS hl.1 (c_X3_timesOf l D I J H.size yZ akZ avZ awZ aoZ amZ lkZ lvZ luZ ipZ nwZ imZ ilZ irZ iuZ iaZ 0 fZ gZ wZ (by omega)) (cwV 1 hts gX3_times_X3_timesOf rfl rfl rfl (by decide +kernel) ⟨Nat.le_of_ble_eq_true rfl, Nat.le_of_ble_eq_true rfl⟩) [0, 1, 2] [] [0, 1, 2] 0 3 rfl rfl rfl rfl rfl (by decide) (by decide) (by decide) (by decide) (fun _ => rfl) rfl rfl (Nat.le_of_ble_eq_true rfl) dX3_times_29 ⟨(by exact Nat.le_of_ble_eq_true rfl), (by exact Nat.le_of_ble_eq_true rfl)⟩ (fun r_29 u_29 H locs hw_29 hP hD hS => ?_)
      try dsimp only at hw_29
      have hP : va_P D vwCl [(yZ, .inr (3, [.ref akZ, .ref avZ, .ref awZ, .ref aoZ, .ref amZ, .ref lkZ, .ref lvZ, .ref luZ, .int ipZ, .int (nI nwZ), .int imZ, .int ilZ, .int irZ, .int iuZ, .int iaZ, .int 0])), (awZ, .inl (I, 200, .inl fZ)), (aoZ, .inl (I, 200, .inl gZ))] H := hP
      have hD : va_D A [(yZ, .inr (3, [.ref akZ, .ref avZ, .ref awZ, .ref aoZ, .ref amZ, .ref lkZ, .ref lvZ, .ref luZ, .int ipZ, .int (nI nwZ), .int imZ, .int ilZ, .int irZ, .int iuZ, .int iaZ, .int 0])), (awZ, .inl (I, 200, .inl fZ)), (aoZ, .inl (I, 200, .inl gZ))] := hD
      subst hw_29
      refine m_iret () hx hb hr hlocks hP hD hS dX3_times_32 (by first | exact Nat.le_of_ble_eq_true rfl | omega) (by first | exact Nat.le_of_ble_eq_true rfl | omega) ?_
      rfl
    · --9F20F
      exact absurd (by decide) c_20

set_option maxHeartbeats 4000000 in
set_option maxRecDepth 100000 in
theorem c_X3_times_F (l : Launch) (D : va_G) (I J : ClassId) (sz : Nat) (yZ : Nat) (akZ : Nat) (avZ : Nat) (awZ : Nat) (aoZ : Nat) (amZ : Nat) (lkZ : Nat) (lvZ : Nat) (luZ : Nat) (ipZ : Int32) (iwZ : Int32) (imZ : Int32) (ilZ : Int32) (irZ : Int32) (iuZ : Int32) (iaZ : Int32) (icZ : Int32) (wZ : Int32) (hwd : (decide ((0 : Int32) ≤ wZ) && decide (wZ ≤ 18277)) = false) : mCi l yX3_times wsX3_times 1 22 0 0 D I J [.ref yZ, .int wZ] [(yZ, .inr (3, [.ref akZ, .ref avZ, .ref awZ, .ref aoZ, .ref amZ, .ref lkZ, .ref lvZ, .ref luZ, .int ipZ, .int iwZ, .int imZ, .int ilZ, .int irZ, .int iuZ, .int iaZ, .int icZ]))] sz (fun (x : Int32) (u : Unit) => x = 0) (fun (u : Unit) => [(yZ, .inr (3, [.ref akZ, .ref avZ, .ref awZ, .ref aoZ, .ref amZ, .ref lkZ, .ref lvZ, .ref luZ, .int ipZ, .int iwZ, .int imZ, .int ilZ, .int irZ, .int iuZ, .int iaZ, .int 1]))]) := by
  refine m_ofi (cc := cX3_times) (maxL := 2) (ret := (some .int)) (by decide) rfl (Nat.le_of_ble_eq_true rfl) ?_
  intro p e s m args below meth c A ls hx hb hr hlocks hml hts hown hin hK hP hD hA hS hl
  have hl : lv_has ls 2 [(0, .ref yZ), (1, .int wZ)] := hl
  have hP : va_P D vwCl [(yZ, .inr (3, [.ref akZ, .ref avZ, .ref awZ, .ref aoZ, .ref amZ, .ref lkZ, .ref lvZ, .ref luZ, .int ipZ, .int iwZ, .int imZ, .int ilZ, .int irZ, .int iuZ, .int iaZ, .int icZ]))] s.heap := hP
  have hD : va_D A [(yZ, .inr (3, [.ref akZ, .ref avZ, .ref awZ, .ref aoZ, .ref amZ, .ref lkZ, .ref lvZ, .ref luZ, .int ipZ, .int iwZ, .int imZ, .int ilZ, .int irZ, .int iuZ, .int iaZ, .int icZ]))] := hD
  refine lv_aload_n hx hb dX3_times_0 rfl (lv_at hl 0 rfl) ?_
  refine lv_iload_n hx hb dX3_times_1 rfl (lv_at hl 1 rfl) ?_
  refine lv_iconst (v := 0) hx hb dX3_times_2 (by decide) ?_
  refine lv_sipush (v := 18277) hx hb dX3_times_3 (by decide) ?_
  refine m_Si (As := [.int wZ, .int 0, .int 18277]) (wr := [(yZ, .inr (3, [.ref akZ, .ref avZ, .ref awZ, .ref aoZ, .ref amZ, .ref lkZ, .ref lvZ, .ref luZ, .int ipZ, .int iwZ, .int imZ, .int ilZ, .int irZ, .int iuZ, .int iaZ, .int icZ]))]) (ws2 := fun _ => [(yZ, .inr (3, [.ref akZ, .ref avZ, .ref awZ, .ref aoZ, .ref amZ, .ref lkZ, .ref lvZ, .ref luZ, .int ipZ, .int iwZ, .int imZ, .int ilZ, .int irZ, .int iuZ, .int iaZ, .int icZ]))]) ⟨hx, hb, hml, hown, hts⟩ hA hK hP hD hS hl.1 (c_X3_in l D I J s.heap.size wZ 0 18277 ) (cwS 3 hts gX3_times_X3_in rfl rfl rfl (by decide +kernel) ⟨Nat.le_of_ble_eq_true rfl, Nat.le_of_ble_eq_true rfl⟩) [] [0] [0] rfl rfl (by decide) (by decide) (by decide) (by decide) (fun _ => rfl) rfl rfl (Nat.le_of_ble_eq_true rfl) dX3_times_6 ⟨(by exact Nat.le_of_ble_eq_true rfl), (by exact Nat.le_of_ble_eq_true rfl)⟩ (fun r_6 u_6 H locs hw_6 hP hD hS => ?_)
  try dsimp only at hw_6
  have hP : va_P D vwCl [(yZ, .inr (3, [.ref akZ, .ref avZ, .ref awZ, .ref aoZ, .ref amZ, .ref lkZ, .ref lvZ, .ref luZ, .int ipZ, .int iwZ, .int imZ, .int ilZ, .int irZ, .int iuZ, .int iaZ, .int icZ]))] H := hP
  have hD : va_D A [(yZ, .inr (3, [.ref akZ, .ref avZ, .ref awZ, .ref aoZ, .ref amZ, .ref lkZ, .ref lvZ, .ref luZ, .int ipZ, .int iwZ, .int imZ, .int ilZ, .int irZ, .int iuZ, .int iaZ, .int icZ]))] := hD
  subst hw_6
  refine lv_if_eq (tgt := 16) hx hb dX3_times_9 (by decide) (fun c_9 => ?_) (fun c_9 => ?_)
  · --9T
    refine lv_iconst (v := 1) hx hb dX3_times_16 (by decide) ?_
    refine m_Vi (As := [.int 1]) (wr := []) (ws2 := fun _ => [(yZ, .inr (3, [.ref akZ, .ref avZ, .ref awZ, .ref aoZ, .ref amZ, .ref lkZ, .ref lvZ, .ref luZ, .int ipZ, .int iwZ, .int imZ, .int ilZ, .int irZ, .int iuZ, .int iaZ, .int 1]))]) ⟨hx, hb, hml, hown, hts⟩ hA hK hP hD hS hl.1 (c_X3_fails l D I J H.size yZ akZ avZ awZ aoZ amZ lkZ lvZ luZ ipZ iwZ imZ ilZ irZ iuZ iaZ icZ 1 ) (cwV 1 hts gX3_times_X3_fails rfl rfl rfl (by decide +kernel) ⟨Nat.le_of_ble_eq_true rfl, Nat.le_of_ble_eq_true rfl⟩) [0] [] [0] 0 3 rfl rfl rfl rfl rfl (by decide) (by decide) (by decide) (by decide) (fun _ => rfl) rfl rfl (Nat.le_of_ble_eq_true rfl) dX3_times_17 ⟨(by exact Nat.le_of_ble_eq_true rfl), (by exact Nat.le_of_ble_eq_true rfl)⟩ (fun r_17 u_17 H locs hw_17 hP hD hS => ?_)
    try dsimp only at hw_17
    have hP : va_P D vwCl [(yZ, .inr (3, [.ref akZ, .ref avZ, .ref awZ, .ref aoZ, .ref amZ, .ref lkZ, .ref lvZ, .ref luZ, .int ipZ, .int iwZ, .int imZ, .int ilZ, .int irZ, .int iuZ, .int iaZ, .int 1]))] H := hP
    have hD : va_D A [(yZ, .inr (3, [.ref akZ, .ref avZ, .ref awZ, .ref aoZ, .ref amZ, .ref lkZ, .ref lvZ, .ref luZ, .int ipZ, .int iwZ, .int imZ, .int ilZ, .int irZ, .int iuZ, .int iaZ, .int 1]))] := hD
    subst hw_17
    refine lv_if_eq (tgt := 27) hx hb dX3_times_20 (by decide) (fun c_20 => ?_) (fun c_20 => ?_)
    · --9T20T
      exact absurd c_20 (by decide)
    · --9T20F
      refine lv_iconst (v := 0) hx hb dX3_times_23 (by decide) ?_
      refine lv_goto (tgt := 32) hx hb dX3_times_24 (by decide) ?_
      refine m_iret () hx hb hr hlocks hP hD hS dX3_times_32 (by first | exact Nat.le_of_ble_eq_true rfl | omega) (by first | exact Nat.le_of_ble_eq_true rfl | omega) ?_
      rfl
  · --9F
    exact absurd (by rw [hwd]; rfl) c_9

set_option maxHeartbeats 4000000 in
set_option maxRecDepth 100000 in
theorem c_X3_forget (l : Launch) (D : va_G) (I J : ClassId) (sz : Nat) (yZ : Nat) (akZ : Nat) (avZ : Nat) (awZ : Nat) (aoZ : Nat) (amZ : Nat) (lkZ : Nat) (lvZ : Nat) (luZ : Nat) (ipZ : Int32) (nwZ : Nat) (imZ : Int32) (ilZ : Int32) (irZ : Int32) (iuZ : Int32) (iaZ : Int32) (icZ : Int32) (fZ : Nat → Int32) (gZ : Nat → Int32) (wZ : Int32) (hwd : (decide ((0 : Int32) ≤ wZ) && decide (wZ ≤ 18277)) = true) (hnw : nwZ ≤ 200) : mCi l yX3_forget wsX3_forget 2 46 0 0 D I J [.ref yZ, .int wZ] [(yZ, .inr (3, [.ref akZ, .ref avZ, .ref awZ, .ref aoZ, .ref amZ, .ref lkZ, .ref lvZ, .ref luZ, .int ipZ, .int (nI nwZ), .int imZ, .int ilZ, .int irZ, .int iuZ, .int iaZ, .int icZ])), (awZ, .inl (I, 200, .inl fZ)), (aoZ, .inl (I, 200, .inl gZ))] sz (fun (x : Int32) (u : Unit) => x = (orO gZ 0 (rL fZ wZ nwZ))) (fun (u : Unit) => [(yZ, .inr (3, [.ref akZ, .ref avZ, .ref awZ, .ref aoZ, .ref amZ, .ref lkZ, .ref lvZ, .ref luZ, .int ipZ, .int (nI (delN nwZ (rL fZ wZ nwZ))), .int imZ, .int ilZ, .int irZ, .int iuZ, .int iaZ, .int 0])), (awZ, .inl (I, 200, .inl (swO fZ nwZ (rL fZ wZ nwZ)))), (aoZ, .inl (I, 200, .inl (swO gZ nwZ (rL fZ wZ nwZ))))]) := by
  refine m_ofi (cc := cX3_forget) (maxL := 4) (ret := (some .int)) (by decide) rfl (Nat.le_of_ble_eq_true rfl) ?_
  intro p e s m args below meth c A ls hx hb hr hlocks hml hts hown hin hK hP hD hA hS hl
  have hl : lv_has ls 4 [(0, .ref yZ), (1, .int wZ)] := hl
  have hP : va_P D vwCl [(yZ, .inr (3, [.ref akZ, .ref avZ, .ref awZ, .ref aoZ, .ref amZ, .ref lkZ, .ref lvZ, .ref luZ, .int ipZ, .int (nI nwZ), .int imZ, .int ilZ, .int irZ, .int iuZ, .int iaZ, .int icZ])), (awZ, .inl (I, 200, .inl fZ)), (aoZ, .inl (I, 200, .inl gZ))] s.heap := hP
  have hD : va_D A [(yZ, .inr (3, [.ref akZ, .ref avZ, .ref awZ, .ref aoZ, .ref amZ, .ref lkZ, .ref lvZ, .ref luZ, .int ipZ, .int (nI nwZ), .int imZ, .int ilZ, .int irZ, .int iuZ, .int iaZ, .int icZ])), (awZ, .inl (I, 200, .inl fZ)), (aoZ, .inl (I, 200, .inl gZ))] := hD
  refine lv_aload_n hx hb dX3_forget_0 rfl (lv_at hl 0 rfl) ?_
  refine lv_iload_n hx hb dX3_forget_1 rfl (lv_at hl 1 rfl) ?_
  refine lv_iconst (v := 0) hx hb dX3_forget_2 (by decide) ?_
  refine lv_sipush (v := 18277) hx hb dX3_forget_3 (by decide) ?_
  refine m_Si (As := [.int wZ, .int 0, .int 18277]) (wr := [(yZ, .inr (3, [.ref akZ, .ref avZ, .ref awZ, .ref aoZ, .ref amZ, .ref lkZ, .ref lvZ, .ref luZ, .int ipZ, .int (nI nwZ), .int imZ, .int ilZ, .int irZ, .int iuZ, .int iaZ, .int icZ])), (awZ, .inl (I, 200, .inl fZ)), (aoZ, .inl (I, 200, .inl gZ))]) (ws2 := fun _ => [(yZ, .inr (3, [.ref akZ, .ref avZ, .ref awZ, .ref aoZ, .ref amZ, .ref lkZ, .ref lvZ, .ref luZ, .int ipZ, .int (nI nwZ), .int imZ, .int ilZ, .int irZ, .int iuZ, .int iaZ, .int icZ])), (awZ, .inl (I, 200, .inl fZ)), (aoZ, .inl (I, 200, .inl gZ))]) ⟨hx, hb, hml, hown, hts⟩ hA hK hP hD hS hl.1 (c_X3_in l D I J s.heap.size wZ 0 18277 ) (cwS 3 hts gX3_forget_X3_in rfl rfl rfl (by decide +kernel) ⟨Nat.le_of_ble_eq_true rfl, Nat.le_of_ble_eq_true rfl⟩) [] [0, 1, 2] [0, 1, 2] rfl rfl (by decide) (by decide) (by decide) (by decide) (fun _ => rfl) rfl rfl (Nat.le_of_ble_eq_true rfl) dX3_forget_6 ⟨(by exact Nat.le_of_ble_eq_true rfl), (by exact Nat.le_of_ble_eq_true rfl)⟩ (fun r_6 u_6 H locs hw_6 hP hD hS => ?_)
  try dsimp only at hw_6
  have hP : va_P D vwCl [(yZ, .inr (3, [.ref akZ, .ref avZ, .ref awZ, .ref aoZ, .ref amZ, .ref lkZ, .ref lvZ, .ref luZ, .int ipZ, .int (nI nwZ), .int imZ, .int ilZ, .int irZ, .int iuZ, .int iaZ, .int icZ])), (awZ, .inl (I, 200, .inl fZ)), (aoZ, .inl (I, 200, .inl gZ))] H := hP
  have hD : va_D A [(yZ, .inr (3, [.ref akZ, .ref avZ, .ref awZ, .ref aoZ, .ref amZ, .ref lkZ, .ref lvZ, .ref luZ, .int ipZ, .int (nI nwZ), .int imZ, .int ilZ, .int irZ, .int iuZ, .int iaZ, .int icZ])), (awZ, .inl (I, 200, .inl fZ)), (aoZ, .inl (I, 200, .inl gZ))] := hD
  subst hw_6
  refine lv_if_eq (tgt := 16) hx hb dX3_forget_9 (by decide) (fun c_9 => ?_) (fun c_9 => ?_)
  · --9T
    exact absurd c_9 (by rw [hwd]; decide)
  · --9F
    refine lv_iconst (v := 0) hx hb dX3_forget_12 (by decide) ?_
    refine lv_goto (tgt := 17) hx hb dX3_forget_13 (by decide) ?_
    refine m_Vi (As := [.int 0]) (wr := [(awZ, .inl (I, 200, .inl fZ)), (aoZ, .inl (I, 200, .inl gZ))]) (ws2 := fun _ => [(yZ, .inr (3, [.ref akZ, .ref avZ, .ref awZ, .ref aoZ, .ref amZ, .ref lkZ, .ref lvZ, .ref luZ, .int ipZ, .int (nI nwZ), .int imZ, .int ilZ, .int irZ, .int iuZ, .int iaZ, .int 0])), (awZ, .inl (I, 200, .inl fZ)), (aoZ, .inl (I, 200, .inl gZ))]) ⟨hx, hb, hml, hown, hts⟩ hA hK hP hD hS hl.1 (c_X3_fails l D I J H.size yZ akZ avZ awZ aoZ amZ lkZ lvZ luZ ipZ (nI nwZ) imZ ilZ irZ iuZ iaZ icZ 0 ) (cwV 1 hts gX3_forget_X3_fails rfl rfl rfl (by decide +kernel) ⟨Nat.le_of_ble_eq_true rfl, Nat.le_of_ble_eq_true rfl⟩) [0] [1, 2] [2, 0, 1] 0 3 rfl rfl rfl rfl rfl (by decide) (by decide) (by decide) (by decide) (fun _ => rfl) rfl rfl (Nat.le_of_ble_eq_true rfl) dX3_forget_17 ⟨(by exact Nat.le_of_ble_eq_true rfl), (by exact Nat.le_of_ble_eq_true rfl)⟩ (fun r_17 u_17 H locs hw_17 hP hD hS => ?_)
    try dsimp only at hw_17
    have hP : va_P D vwCl [(yZ, .inr (3, [.ref akZ, .ref avZ, .ref awZ, .ref aoZ, .ref amZ, .ref lkZ, .ref lvZ, .ref luZ, .int ipZ, .int (nI nwZ), .int imZ, .int ilZ, .int irZ, .int iuZ, .int iaZ, .int 0])), (awZ, .inl (I, 200, .inl fZ)), (aoZ, .inl (I, 200, .inl gZ))] H := hP
    have hD : va_D A [(yZ, .inr (3, [.ref akZ, .ref avZ, .ref awZ, .ref aoZ, .ref amZ, .ref lkZ, .ref lvZ, .ref luZ, .int ipZ, .int (nI nwZ), .int imZ, .int ilZ, .int irZ, .int iuZ, .int iaZ, .int 0])), (awZ, .inl (I, 200, .inl fZ)), (aoZ, .inl (I, 200, .inl gZ))] := hD
    subst hw_17
    refine lv_if_eq (tgt := 25) hx hb dX3_forget_20 (by decide) (fun c_20 => ?_) (fun c_20 => ?_)
    · --9F20T
      refine lv_aload_n hx hb dX3_forget_25 rfl (lv_at hl 0 rfl) ?_
      refine lv_iload_n hx hb dX3_forget_26 rfl (lv_at hl 1 rfl) ?_
      refine m_Vi (As := [.int wZ]) (wr := []) (ws2 := fun _ => [(yZ, .inr (3, [.ref akZ, .ref avZ, .ref awZ, .ref aoZ, .ref amZ, .ref lkZ, .ref lvZ, .ref luZ, .int ipZ, .int (nI nwZ), .int imZ, .int ilZ, .int irZ, .int iuZ, .int iaZ, .int 0])), (awZ, .inl (I, 200, .inl fZ)), (aoZ, .inl (I, 200, .inl gZ))]) ⟨hx, hb, hml, hown, hts⟩ hA hK hP hD hS hl.1 (c_X3_timesOf l D I J H.size yZ akZ avZ awZ aoZ amZ lkZ lvZ luZ ipZ nwZ imZ ilZ irZ iuZ iaZ 0 fZ gZ wZ (by omega)) (cwV 1 hts gX3_forget_X3_timesOf rfl rfl rfl (by decide +kernel) ⟨Nat.le_of_ble_eq_true rfl, Nat.le_of_ble_eq_true rfl⟩) [0, 1, 2] [] [0, 1, 2] 0 3 rfl rfl rfl rfl rfl (by decide) (by decide) (by decide) (by decide) (fun _ => rfl) rfl rfl (Nat.le_of_ble_eq_true rfl) dX3_forget_27 ⟨(by exact Nat.le_of_ble_eq_true rfl), (by exact Nat.le_of_ble_eq_true rfl)⟩ (fun r_27 u_27 H locs hw_27 hP hD hS => ?_)
      try dsimp only at hw_27
      have hP : va_P D vwCl [(yZ, .inr (3, [.ref akZ, .ref avZ, .ref awZ, .ref aoZ, .ref amZ, .ref lkZ, .ref lvZ, .ref luZ, .int ipZ, .int (nI nwZ), .int imZ, .int ilZ, .int irZ, .int iuZ, .int iaZ, .int 0])), (awZ, .inl (I, 200, .inl fZ)), (aoZ, .inl (I, 200, .inl gZ))] H := hP
      have hD : va_D A [(yZ, .inr (3, [.ref akZ, .ref avZ, .ref awZ, .ref aoZ, .ref amZ, .ref lkZ, .ref lvZ, .ref luZ, .int ipZ, .int (nI nwZ), .int imZ, .int ilZ, .int irZ, .int iuZ, .int iaZ, .int 0])), (awZ, .inl (I, 200, .inl fZ)), (aoZ, .inl (I, 200, .inl gZ))] := hD
      subst hw_27
      refine lv_istore_n (lv' := [(2, .int (orO gZ 0 (rL fZ wZ nwZ))), (0, .ref yZ), (1, .int wZ)]) hx hb dX3_forget_30 rfl hl (by decide) rfl (fun ls hl => ?_)
      refine lv_aload_n hx hb dX3_forget_31 rfl (lv_at hl 1 rfl) ?_
      refine va_get (D := D) (ci := 3) (v := .ref awZ) (C := RX3) (T := TX3) (N := 16) hx hb hts (fun _ h => List.mem_cons_of_mem _ (List.mem_append_right _ h)) hown hK hP 0 rfl rfl 2 (by decide) (hts (.fieldLink RX3 16 "MapsByUseModel" "told" "[I") (List.mem_of_getElem? (i := 1) (by decide +kernel))) (fun _ h9 => h9) rfl dX3_forget_32 ?_
      refine lv_aload_n hx hb dX3_forget_35 rfl (lv_at hl 1 rfl) ?_
      refine va_get (D := D) (ci := 3) (v := .int (nI nwZ)) (C := RX3) (T := TX3) (N := 16) hx hb hts (fun _ h => List.mem_cons_of_mem _ (List.mem_append_right _ h)) hown hK hP 0 rfl rfl 9 (by decide) (hts (.fieldLink RX3 88 "MapsByUseModel" "many" "I") (List.mem_of_getElem? (i := 2) (by decide +kernel))) (fun _ h9 => h9) rfl dX3_forget_36 ?_
      refine lv_iload_n hx hb dX3_forget_39 rfl (lv_at hl 2 rfl) ?_
      refine m_Si (As := [.ref awZ, .int (nI nwZ), .int wZ]) (wr := [(yZ, .inr (3, [.ref akZ, .ref avZ, .ref awZ, .ref aoZ, .ref amZ, .ref lkZ, .ref lvZ, .ref luZ, .int ipZ, .int (nI nwZ), .int imZ, .int ilZ, .int irZ, .int iuZ, .int iaZ, .int 0])), (aoZ, .inl (I, 200, .inl gZ))]) (ws2 := fun _ => [(yZ, .inr (3, [.ref akZ, .ref avZ, .ref awZ, .ref aoZ, .ref amZ, .ref lkZ, .ref lvZ, .ref luZ, .int ipZ, .int (nI nwZ), .int imZ, .int ilZ, .int irZ, .int iuZ, .int iaZ, .int 0])), (awZ, .inl (I, 200, .inl fZ)), (aoZ, .inl (I, 200, .inl gZ))]) ⟨hx, hb, hml, hown, hts⟩ hA hK hP hD hS hl.1 (c_X3_find l D I J H.size awZ 200 fZ nwZ wZ (by omega) (by omega)) (cwS 3 hts gX3_forget_X3_find rfl rfl rfl (by decide +kernel) ⟨Nat.le_of_ble_eq_true rfl, Nat.le_of_ble_eq_true rfl⟩) [1] [0, 2] [0, 2, 1] rfl rfl (by decide) (by decide) (by decide) (by decide) (fun _ => rfl) rfl rfl (Nat.le_of_ble_eq_true rfl) dX3_forget_40 ⟨(by exact Nat.le_of_ble_eq_true rfl), (by exact Nat.le_of_ble_eq_true rfl)⟩ (fun r_40 u_40 H locs hw_40 hP hD hS => ?_)
      try dsimp only at hw_40
      have hP : va_P D vwCl [(yZ, .inr (3, [.ref akZ, .ref avZ, .ref awZ, .ref aoZ, .ref amZ, .ref lkZ, .ref lvZ, .ref luZ, .int ipZ, .int (nI nwZ), .int imZ, .int ilZ, .int irZ, .int iuZ, .int iaZ, .int 0])), (awZ, .inl (I, 200, .inl fZ)), (aoZ, .inl (I, 200, .inl gZ))] H := hP
      have hD : va_D A [(yZ, .inr (3, [.ref akZ, .ref avZ, .ref awZ, .ref aoZ, .ref amZ, .ref lkZ, .ref lvZ, .ref luZ, .int ipZ, .int (nI nwZ), .int imZ, .int ilZ, .int irZ, .int iuZ, .int iaZ, .int 0])), (awZ, .inl (I, 200, .inl fZ)), (aoZ, .inl (I, 200, .inl gZ))] := hD
      subst hw_40
      refine lv_istore_n (lv' := [(3, .int (iO (rL fZ wZ nwZ))), (2, .int (orO gZ 0 (rL fZ wZ nwZ))), (0, .ref yZ), (1, .int wZ)]) hx hb dX3_forget_43 rfl hl (by decide) rfl (fun ls hl => ?_)
      refine lv_iload_n hx hb dX3_forget_44 rfl (lv_at hl 0 rfl) ?_
      refine lv_if_ge (tgt := 50) hx hb dX3_forget_45 (by decide) (fun c_45 => ?_) (fun c_45 => ?_)
      · --9F20T45T
        obtain ⟨jZ, ho⟩ := iO_ges c_45
        have hj := (rL_some ho).1
        rw [ho] at hl
        refine lv_aload_n hx hb dX3_forget_50 rfl (lv_at hl 2 rfl) ?_
        refine lv_dup hx hb dX3_forget_51 rfl ?_
        refine va_get (D := D) (ci := 3) (v := .int (nI nwZ)) (C := RX3) (T := TX3) (N := 16) hx hb hts (fun _ h => List.mem_cons_of_mem _ (List.mem_append_right _ h)) hown hK hP 0 rfl rfl 9 (by decide) (hts (.fieldLink RX3 88 "MapsByUseModel" "many" "I") (List.mem_of_getElem? (i := 2) (by decide +kernel))) (fun _ h9 => h9) rfl dX3_forget_52 ?_
        refine lv_iconst (v := 1) hx hb dX3_forget_55 (by decide) ?_
        refine lv_isub hx hb dX3_forget_56 ?_
        refine m_topi (y := (nI (nwZ - 1))) (by exact pk_sub (a := nwZ) (b := 1) (by omega)) ?_
        refine va_put (D := D) (ci := 3) (v := .int (nI (nwZ - 1))) (ty := .int) (C := RX3) (T := TX3) (N := 16) hx hb hts (fun _ h => List.mem_cons_of_mem _ (List.mem_append_right _ h)) tyX3 tyX3_ok nmX3 hown hK hP hD hS 0 rfl rfl 9 (by decide) (hts (.fieldLink RX3 88 "MapsByUseModel" "many" "I") (List.mem_of_getElem? (i := 2) (by decide +kernel))) (fun _ h9 => h9) rfl (by decide +kernel) rfl rfl (Nat.le_of_ble_eq_true rfl) dX3_forget_57 (fun H locs hP hD hS => ?_)
        have hP : va_P D vwCl [(yZ, .inr (3, [.ref akZ, .ref avZ, .ref awZ, .ref aoZ, .ref amZ, .ref lkZ, .ref lvZ, .ref luZ, .int ipZ, .int (nI (nwZ - 1)), .int imZ, .int ilZ, .int irZ, .int iuZ, .int iaZ, .int 0])), (awZ, .inl (I, 200, .inl fZ)), (aoZ, .inl (I, 200, .inl gZ))] H := hP
        have hD : va_D A [(yZ, .inr (3, [.ref akZ, .ref avZ, .ref awZ, .ref aoZ, .ref amZ, .ref lkZ, .ref lvZ, .ref luZ, .int ipZ, .int (nI (nwZ - 1)), .int imZ, .int ilZ, .int irZ, .int iuZ, .int iaZ, .int 0])), (awZ, .inl (I, 200, .inl fZ)), (aoZ, .inl (I, 200, .inl gZ))] := hD
        refine lv_aload_n hx hb dX3_forget_60 rfl (lv_at hl 2 rfl) ?_
        refine va_get (D := D) (ci := 3) (v := .ref awZ) (C := RX3) (T := TX3) (N := 16) hx hb hts (fun _ h => List.mem_cons_of_mem _ (List.mem_append_right _ h)) hown hK hP 0 rfl rfl 2 (by decide) (hts (.fieldLink RX3 16 "MapsByUseModel" "told" "[I") (List.mem_of_getElem? (i := 1) (by decide +kernel))) (fun _ h9 => h9) rfl dX3_forget_61 ?_
        refine lv_iload_n hx hb dX3_forget_64 rfl (lv_at hl 0 rfl) ?_
        refine lv_aload_n hx hb dX3_forget_65 rfl (lv_at hl 2 rfl) ?_
        refine va_get (D := D) (ci := 3) (v := .ref awZ) (C := RX3) (T := TX3) (N := 16) hx hb hts (fun _ h => List.mem_cons_of_mem _ (List.mem_append_right _ h)) hown hK hP 0 rfl rfl 2 (by decide) (hts (.fieldLink RX3 16 "MapsByUseModel" "told" "[I") (List.mem_of_getElem? (i := 1) (by decide +kernel))) (fun _ h9 => h9) rfl dX3_forget_66 ?_
        refine lv_aload_n hx hb dX3_forget_69 rfl (lv_at hl 2 rfl) ?_
        refine va_get (D := D) (ci := 3) (v := .int (nI (nwZ - 1))) (C := RX3) (T := TX3) (N := 16) hx hb hts (fun _ h => List.mem_cons_of_mem _ (List.mem_append_right _ h)) hown hK hP 0 rfl rfl 9 (by decide) (hts (.fieldLink RX3 88 "MapsByUseModel" "many" "I") (List.mem_of_getElem? (i := 2) (by decide +kernel))) (fun _ h9 => h9) rfl dX3_forget_70 ?_
        refine m_iald (D := D) (cl := vwCl) hx hb hK hP 1 0 (j := (nwZ - 1)) rfl rfl (by rfl) (by omega) (by omega) dX3_forget_73 ?_
        refine m_iast (D := D) (cl := vwCl) hx hb hK hP hD hS 1 0 (j := jZ) rfl rfl (by rfl) (by omega) (by omega) dX3_forget_74 (fun H locs hP hD hS => ?_)
        have hP : va_P D vwCl [(yZ, .inr (3, [.ref akZ, .ref avZ, .ref awZ, .ref aoZ, .ref amZ, .ref lkZ, .ref lvZ, .ref luZ, .int ipZ, .int (nI (nwZ - 1)), .int imZ, .int ilZ, .int irZ, .int iuZ, .int iaZ, .int 0])), (awZ, .inl (I, 200, .inl (upd fZ jZ (fZ (nwZ - 1))))), (aoZ, .inl (I, 200, .inl gZ))] H := hP
        have hD : va_D A [(yZ, .inr (3, [.ref akZ, .ref avZ, .ref awZ, .ref aoZ, .ref amZ, .ref lkZ, .ref lvZ, .ref luZ, .int ipZ, .int (nI (nwZ - 1)), .int imZ, .int ilZ, .int irZ, .int iuZ, .int iaZ, .int 0])), (awZ, .inl (I, 200, .inl (upd fZ jZ (fZ (nwZ - 1))))), (aoZ, .inl (I, 200, .inl gZ))] := hD
        refine lv_aload_n hx hb dX3_forget_75 rfl (lv_at hl 2 rfl) ?_
        refine va_get (D := D) (ci := 3) (v := .ref aoZ) (C := RX3) (T := TX3) (N := 16) hx hb hts (fun _ h => List.mem_cons_of_mem _ (List.mem_append_right _ h)) hown hK hP 0 rfl rfl 3 (by decide) (hts (.fieldLink RX3 19 "MapsByUseModel" "often" "[I") (List.mem_of_getElem? (i := 3) (by decide +kernel))) (fun _ h9 => h9) rfl dX3_forget_76 ?_
        refine lv_iload_n hx hb dX3_forget_79 rfl (lv_at hl 0 rfl) ?_
        refine lv_aload_n hx hb dX3_forget_80 rfl (lv_at hl 2 rfl) ?_
        refine va_get (D := D) (ci := 3) (v := .ref aoZ) (C := RX3) (T := TX3) (N := 16) hx hb hts (fun _ h => List.mem_cons_of_mem _ (List.mem_append_right _ h)) hown hK hP 0 rfl rfl 3 (by decide) (hts (.fieldLink RX3 19 "MapsByUseModel" "often" "[I") (List.mem_of_getElem? (i := 3) (by decide +kernel))) (fun _ h9 => h9) rfl dX3_forget_81 ?_
        refine lv_aload_n hx hb dX3_forget_84 rfl (lv_at hl 2 rfl) ?_
        refine va_get (D := D) (ci := 3) (v := .int (nI (nwZ - 1))) (C := RX3) (T := TX3) (N := 16) hx hb hts (fun _ h => List.mem_cons_of_mem _ (List.mem_append_right _ h)) hown hK hP 0 rfl rfl 9 (by decide) (hts (.fieldLink RX3 88 "MapsByUseModel" "many" "I") (List.mem_of_getElem? (i := 2) (by decide +kernel))) (fun _ h9 => h9) rfl dX3_forget_85 ?_
        refine m_iald (D := D) (cl := vwCl) hx hb hK hP 2 0 (j := (nwZ - 1)) rfl rfl (by rfl) (by omega) (by omega) dX3_forget_88 ?_
        refine m_iast (D := D) (cl := vwCl) hx hb hK hP hD hS 2 0 (j := jZ) rfl rfl (by rfl) (by omega) (by omega) dX3_forget_89 (fun H locs hP hD hS => ?_)
        have hP : va_P D vwCl [(yZ, .inr (3, [.ref akZ, .ref avZ, .ref awZ, .ref aoZ, .ref amZ, .ref lkZ, .ref lvZ, .ref luZ, .int ipZ, .int (nI (nwZ - 1)), .int imZ, .int ilZ, .int irZ, .int iuZ, .int iaZ, .int 0])), (awZ, .inl (I, 200, .inl (upd fZ jZ (fZ (nwZ - 1))))), (aoZ, .inl (I, 200, .inl (upd gZ jZ (gZ (nwZ - 1)))))] H := hP
        have hD : va_D A [(yZ, .inr (3, [.ref akZ, .ref avZ, .ref awZ, .ref aoZ, .ref amZ, .ref lkZ, .ref lvZ, .ref luZ, .int ipZ, .int (nI (nwZ - 1)), .int imZ, .int ilZ, .int irZ, .int iuZ, .int iaZ, .int 0])), (awZ, .inl (I, 200, .inl (upd fZ jZ (fZ (nwZ - 1))))), (aoZ, .inl (I, 200, .inl (upd gZ jZ (gZ (nwZ - 1)))))] := hD
        refine lv_iload_n hx hb dX3_forget_90 rfl (lv_at hl 1 rfl) ?_
        have hEq : [(yZ, .inr (3, [.ref akZ, .ref avZ, .ref awZ, .ref aoZ, .ref amZ, .ref lkZ, .ref lvZ, .ref luZ, .int ipZ, .int (nI (nwZ - 1)), .int imZ, .int ilZ, .int irZ, .int iuZ, .int iaZ, .int 0])), (awZ, .inl (I, 200, .inl (upd fZ jZ (fZ (nwZ - 1))))), (aoZ, .inl (I, 200, .inl (upd gZ jZ (gZ (nwZ - 1)))))] = ([(yZ, .inr (3, [.ref akZ, .ref avZ, .ref awZ, .ref aoZ, .ref amZ, .ref lkZ, .ref lvZ, .ref luZ, .int ipZ, .int (nI (delN nwZ (rL fZ wZ nwZ))), .int imZ, .int ilZ, .int irZ, .int iuZ, .int iaZ, .int 0])), (awZ, .inl (I, 200, .inl (swO fZ nwZ (rL fZ wZ nwZ)))), (aoZ, .inl (I, 200, .inl (swO gZ nwZ (rL fZ wZ nwZ))))] : va_W) := (by rw [ho]; rfl)
        rw [hEq] at hP hD
        refine m_iret () hx hb hr hlocks hP hD hS dX3_forget_91 (by first | exact Nat.le_of_ble_eq_true rfl | omega) (by first | exact Nat.le_of_ble_eq_true rfl | omega) ?_
        rw [ho]
      · --9F20T45F
        have ho : rL fZ wZ nwZ = none := iO_ge c_45 (rL_lt (by omega))
        refine lv_iconst (v := 0) hx hb dX3_forget_48 (by decide) ?_
        have hEq : [(yZ, .inr (3, [.ref akZ, .ref avZ, .ref awZ, .ref aoZ, .ref amZ, .ref lkZ, .ref lvZ, .ref luZ, .int ipZ, .int (nI nwZ), .int imZ, .int ilZ, .int irZ, .int iuZ, .int iaZ, .int 0])), (awZ, .inl (I, 200, .inl fZ)), (aoZ, .inl (I, 200, .inl gZ))] = ([(yZ, .inr (3, [.ref akZ, .ref avZ, .ref awZ, .ref aoZ, .ref amZ, .ref lkZ, .ref lvZ, .ref luZ, .int ipZ, .int (nI (delN nwZ (rL fZ wZ nwZ))), .int imZ, .int ilZ, .int irZ, .int iuZ, .int iaZ, .int 0])), (awZ, .inl (I, 200, .inl (swO fZ nwZ (rL fZ wZ nwZ)))), (aoZ, .inl (I, 200, .inl (swO gZ nwZ (rL fZ wZ nwZ))))] : va_W) := (by rw [ho]; rfl)
        rw [hEq] at hP hD
        refine m_iret () hx hb hr hlocks hP hD hS dX3_forget_49 (by first | exact Nat.le_of_ble_eq_true rfl | omega) (by first | exact Nat.le_of_ble_eq_true rfl | omega) ?_
        rw [ho]; rfl
    · --9F20F
      exact absurd (by decide) c_20

set_option maxHeartbeats 4000000 in
set_option maxRecDepth 100000 in
theorem c_X3_forget_F (l : Launch) (D : va_G) (I J : ClassId) (sz : Nat) (yZ : Nat) (akZ : Nat) (avZ : Nat) (awZ : Nat) (aoZ : Nat) (amZ : Nat) (lkZ : Nat) (lvZ : Nat) (luZ : Nat) (ipZ : Int32) (iwZ : Int32) (imZ : Int32) (ilZ : Int32) (irZ : Int32) (iuZ : Int32) (iaZ : Int32) (icZ : Int32) (wZ : Int32) (hwd : (decide ((0 : Int32) ≤ wZ) && decide (wZ ≤ 18277)) = false) : mCi l yX3_forget wsX3_forget 1 22 0 0 D I J [.ref yZ, .int wZ] [(yZ, .inr (3, [.ref akZ, .ref avZ, .ref awZ, .ref aoZ, .ref amZ, .ref lkZ, .ref lvZ, .ref luZ, .int ipZ, .int iwZ, .int imZ, .int ilZ, .int irZ, .int iuZ, .int iaZ, .int icZ]))] sz (fun (x : Int32) (u : Unit) => x = 0) (fun (u : Unit) => [(yZ, .inr (3, [.ref akZ, .ref avZ, .ref awZ, .ref aoZ, .ref amZ, .ref lkZ, .ref lvZ, .ref luZ, .int ipZ, .int iwZ, .int imZ, .int ilZ, .int irZ, .int iuZ, .int iaZ, .int 1]))]) := by
  refine m_ofi (cc := cX3_forget) (maxL := 4) (ret := (some .int)) (by decide) rfl (Nat.le_of_ble_eq_true rfl) ?_
  intro p e s m args below meth c A ls hx hb hr hlocks hml hts hown hin hK hP hD hA hS hl
  have hl : lv_has ls 4 [(0, .ref yZ), (1, .int wZ)] := hl
  have hP : va_P D vwCl [(yZ, .inr (3, [.ref akZ, .ref avZ, .ref awZ, .ref aoZ, .ref amZ, .ref lkZ, .ref lvZ, .ref luZ, .int ipZ, .int iwZ, .int imZ, .int ilZ, .int irZ, .int iuZ, .int iaZ, .int icZ]))] s.heap := hP
  have hD : va_D A [(yZ, .inr (3, [.ref akZ, .ref avZ, .ref awZ, .ref aoZ, .ref amZ, .ref lkZ, .ref lvZ, .ref luZ, .int ipZ, .int iwZ, .int imZ, .int ilZ, .int irZ, .int iuZ, .int iaZ, .int icZ]))] := hD
  refine lv_aload_n hx hb dX3_forget_0 rfl (lv_at hl 0 rfl) ?_
  refine lv_iload_n hx hb dX3_forget_1 rfl (lv_at hl 1 rfl) ?_
  refine lv_iconst (v := 0) hx hb dX3_forget_2 (by decide) ?_
  refine lv_sipush (v := 18277) hx hb dX3_forget_3 (by decide) ?_
  refine m_Si (As := [.int wZ, .int 0, .int 18277]) (wr := [(yZ, .inr (3, [.ref akZ, .ref avZ, .ref awZ, .ref aoZ, .ref amZ, .ref lkZ, .ref lvZ, .ref luZ, .int ipZ, .int iwZ, .int imZ, .int ilZ, .int irZ, .int iuZ, .int iaZ, .int icZ]))]) (ws2 := fun _ => [(yZ, .inr (3, [.ref akZ, .ref avZ, .ref awZ, .ref aoZ, .ref amZ, .ref lkZ, .ref lvZ, .ref luZ, .int ipZ, .int iwZ, .int imZ, .int ilZ, .int irZ, .int iuZ, .int iaZ, .int icZ]))]) ⟨hx, hb, hml, hown, hts⟩ hA hK hP hD hS hl.1 (c_X3_in l D I J s.heap.size wZ 0 18277 ) (cwS 3 hts gX3_forget_X3_in rfl rfl rfl (by decide +kernel) ⟨Nat.le_of_ble_eq_true rfl, Nat.le_of_ble_eq_true rfl⟩) [] [0] [0] rfl rfl (by decide) (by decide) (by decide) (by decide) (fun _ => rfl) rfl rfl (Nat.le_of_ble_eq_true rfl) dX3_forget_6 ⟨(by exact Nat.le_of_ble_eq_true rfl), (by exact Nat.le_of_ble_eq_true rfl)⟩ (fun r_6 u_6 H locs hw_6 hP hD hS => ?_)
  try dsimp only at hw_6
  have hP : va_P D vwCl [(yZ, .inr (3, [.ref akZ, .ref avZ, .ref awZ, .ref aoZ, .ref amZ, .ref lkZ, .ref lvZ, .ref luZ, .int ipZ, .int iwZ, .int imZ, .int ilZ, .int irZ, .int iuZ, .int iaZ, .int icZ]))] H := hP
  have hD : va_D A [(yZ, .inr (3, [.ref akZ, .ref avZ, .ref awZ, .ref aoZ, .ref amZ, .ref lkZ, .ref lvZ, .ref luZ, .int ipZ, .int iwZ, .int imZ, .int ilZ, .int irZ, .int iuZ, .int iaZ, .int icZ]))] := hD
  subst hw_6
  refine lv_if_eq (tgt := 16) hx hb dX3_forget_9 (by decide) (fun c_9 => ?_) (fun c_9 => ?_)
  · --9T
    refine lv_iconst (v := 1) hx hb dX3_forget_16 (by decide) ?_
    refine m_Vi (As := [.int 1]) (wr := []) (ws2 := fun _ => [(yZ, .inr (3, [.ref akZ, .ref avZ, .ref awZ, .ref aoZ, .ref amZ, .ref lkZ, .ref lvZ, .ref luZ, .int ipZ, .int iwZ, .int imZ, .int ilZ, .int irZ, .int iuZ, .int iaZ, .int 1]))]) ⟨hx, hb, hml, hown, hts⟩ hA hK hP hD hS hl.1 (c_X3_fails l D I J H.size yZ akZ avZ awZ aoZ amZ lkZ lvZ luZ ipZ iwZ imZ ilZ irZ iuZ iaZ icZ 1 ) (cwV 1 hts gX3_forget_X3_fails rfl rfl rfl (by decide +kernel) ⟨Nat.le_of_ble_eq_true rfl, Nat.le_of_ble_eq_true rfl⟩) [0] [] [0] 0 3 rfl rfl rfl rfl rfl (by decide) (by decide) (by decide) (by decide) (fun _ => rfl) rfl rfl (Nat.le_of_ble_eq_true rfl) dX3_forget_17 ⟨(by exact Nat.le_of_ble_eq_true rfl), (by exact Nat.le_of_ble_eq_true rfl)⟩ (fun r_17 u_17 H locs hw_17 hP hD hS => ?_)
    try dsimp only at hw_17
    have hP : va_P D vwCl [(yZ, .inr (3, [.ref akZ, .ref avZ, .ref awZ, .ref aoZ, .ref amZ, .ref lkZ, .ref lvZ, .ref luZ, .int ipZ, .int iwZ, .int imZ, .int ilZ, .int irZ, .int iuZ, .int iaZ, .int 1]))] H := hP
    have hD : va_D A [(yZ, .inr (3, [.ref akZ, .ref avZ, .ref awZ, .ref aoZ, .ref amZ, .ref lkZ, .ref lvZ, .ref luZ, .int ipZ, .int iwZ, .int imZ, .int ilZ, .int irZ, .int iuZ, .int iaZ, .int 1]))] := hD
    subst hw_17
    refine lv_if_eq (tgt := 25) hx hb dX3_forget_20 (by decide) (fun c_20 => ?_) (fun c_20 => ?_)
    · --9T20T
      exact absurd c_20 (by decide)
    · --9T20F
      refine lv_iconst (v := 0) hx hb dX3_forget_23 (by decide) ?_
      refine m_iret () hx hb hr hlocks hP hD hS dX3_forget_24 (by first | exact Nat.le_of_ble_eq_true rfl | omega) (by first | exact Nat.le_of_ble_eq_true rfl | omega) ?_
      rfl
  · --9F
    exact absurd (by rw [hwd]; rfl) c_9

set_option maxHeartbeats 4000000 in
set_option maxRecDepth 100000 in
theorem c_X3_words (l : Launch) (D : va_G) (I J : ClassId) (sz : Nat) (yZ : Nat) (akZ : Nat) (avZ : Nat) (awZ : Nat) (aoZ : Nat) (amZ : Nat) (lkZ : Nat) (lvZ : Nat) (luZ : Nat) (ipZ : Int32) (nwZ : Nat) (imZ : Int32) (ilZ : Int32) (irZ : Int32) (iuZ : Int32) (iaZ : Int32) (icZ : Int32)  : mCi l yX3_words wsX3_words 0 0 0 0 D I J [.ref yZ] [(yZ, .inr (3, [.ref akZ, .ref avZ, .ref awZ, .ref aoZ, .ref amZ, .ref lkZ, .ref lvZ, .ref luZ, .int ipZ, .int (nI nwZ), .int imZ, .int ilZ, .int irZ, .int iuZ, .int iaZ, .int icZ]))] sz (fun (x : Int32) (u : Unit) => x = (nI nwZ)) (fun (u : Unit) => [(yZ, .inr (3, [.ref akZ, .ref avZ, .ref awZ, .ref aoZ, .ref amZ, .ref lkZ, .ref lvZ, .ref luZ, .int ipZ, .int (nI nwZ), .int imZ, .int ilZ, .int irZ, .int iuZ, .int iaZ, .int 0]))]) := by
  refine m_ofi (cc := cX3_words) (maxL := 1) (ret := (some .int)) (by decide) rfl (Nat.le_of_ble_eq_true rfl) ?_
  intro p e s m args below meth c A ls hx hb hr hlocks hml hts hown hin hK hP hD hA hS hl
  have hl : lv_has ls 1 [(0, .ref yZ)] := hl
  have hP : va_P D vwCl [(yZ, .inr (3, [.ref akZ, .ref avZ, .ref awZ, .ref aoZ, .ref amZ, .ref lkZ, .ref lvZ, .ref luZ, .int ipZ, .int (nI nwZ), .int imZ, .int ilZ, .int irZ, .int iuZ, .int iaZ, .int icZ]))] s.heap := hP
  have hD : va_D A [(yZ, .inr (3, [.ref akZ, .ref avZ, .ref awZ, .ref aoZ, .ref amZ, .ref lkZ, .ref lvZ, .ref luZ, .int ipZ, .int (nI nwZ), .int imZ, .int ilZ, .int irZ, .int iuZ, .int iaZ, .int icZ]))] := hD
  refine lv_aload_n hx hb dX3_words_0 rfl (lv_at hl 0 rfl) ?_
  refine lv_iconst (v := 0) hx hb dX3_words_1 (by decide) ?_
  refine va_put (D := D) (ci := 3) (v := .int 0) (ty := .int) (C := RX3) (T := TX3) (N := 16) hx hb hts (fun _ h => List.mem_cons_of_mem _ (List.mem_append_right _ h)) tyX3 tyX3_ok nmX3 hown hK hP hD hS 0 rfl rfl 15 (by decide) (hts (.fieldLink RX3 38 "MapsByUseModel" "code" "I") (List.mem_of_getElem? (i := 1) (by decide +kernel))) (fun _ h9 => h9) rfl (by decide +kernel) rfl rfl (Nat.le_of_ble_eq_true rfl) dX3_words_2 (fun H locs hP hD hS => ?_)
  have hP : va_P D vwCl [(yZ, .inr (3, [.ref akZ, .ref avZ, .ref awZ, .ref aoZ, .ref amZ, .ref lkZ, .ref lvZ, .ref luZ, .int ipZ, .int (nI nwZ), .int imZ, .int ilZ, .int irZ, .int iuZ, .int iaZ, .int 0]))] H := hP
  have hD : va_D A [(yZ, .inr (3, [.ref akZ, .ref avZ, .ref awZ, .ref aoZ, .ref amZ, .ref lkZ, .ref lvZ, .ref luZ, .int ipZ, .int (nI nwZ), .int imZ, .int ilZ, .int irZ, .int iuZ, .int iaZ, .int 0]))] := hD
  refine lv_aload_n hx hb dX3_words_5 rfl (lv_at hl 0 rfl) ?_
  refine va_get (D := D) (ci := 3) (v := .int (nI nwZ)) (C := RX3) (T := TX3) (N := 16) hx hb hts (fun _ h => List.mem_cons_of_mem _ (List.mem_append_right _ h)) hown hK hP 0 rfl rfl 9 (by decide) (hts (.fieldLink RX3 88 "MapsByUseModel" "many" "I") (List.mem_of_getElem? (i := 2) (by decide +kernel))) (fun _ h9 => h9) rfl dX3_words_6 ?_
  refine m_iret () hx hb hr hlocks hP hD hS dX3_words_9 (by first | exact Nat.le_of_ble_eq_true rfl | omega) (by first | exact Nat.le_of_ble_eq_true rfl | omega) ?_
  rfl

set_option maxHeartbeats 4000000 in
set_option maxRecDepth 100000 in
theorem c_X3_mostOften_F (l : Launch) (D : va_G) (I J : ClassId) (sz : Nat) (yZ : Nat) (akZ : Nat) (avZ : Nat) (awZ : Nat) (aoZ : Nat) (amZ : Nat) (lkZ : Nat) (lvZ : Nat) (luZ : Nat) (ipZ : Int32) (nwZ : Nat) (imZ : Int32) (ilZ : Int32) (irZ : Int32) (iuZ : Int32) (iaZ : Int32) (icZ : Int32) (hz0 : nwZ = 0) : mCi l yX3_mostOften wsX3_mostOften 1 21 0 0 D I J [.ref yZ] [(yZ, .inr (3, [.ref akZ, .ref avZ, .ref awZ, .ref aoZ, .ref amZ, .ref lkZ, .ref lvZ, .ref luZ, .int ipZ, .int (nI nwZ), .int imZ, .int ilZ, .int irZ, .int iuZ, .int iaZ, .int icZ]))] sz (fun (x : Int32) (u : Unit) => x = 0) (fun (u : Unit) => [(yZ, .inr (3, [.ref akZ, .ref avZ, .ref awZ, .ref aoZ, .ref amZ, .ref lkZ, .ref lvZ, .ref luZ, .int ipZ, .int (nI nwZ), .int imZ, .int ilZ, .int irZ, .int iuZ, .int iaZ, .int 1]))]) := by
  refine m_ofi (cc := cX3_mostOften) (maxL := 3) (ret := (some .int)) (by decide) rfl (Nat.le_of_ble_eq_true rfl) ?_
  intro p e s m args below meth c A ls hx hb hr hlocks hml hts hown hin hK hP hD hA hS hl
  have hl : lv_has ls 3 [(0, .ref yZ)] := hl
  have hP : va_P D vwCl [(yZ, .inr (3, [.ref akZ, .ref avZ, .ref awZ, .ref aoZ, .ref amZ, .ref lkZ, .ref lvZ, .ref luZ, .int ipZ, .int (nI nwZ), .int imZ, .int ilZ, .int irZ, .int iuZ, .int iaZ, .int icZ]))] s.heap := hP
  have hD : va_D A [(yZ, .inr (3, [.ref akZ, .ref avZ, .ref awZ, .ref aoZ, .ref amZ, .ref lkZ, .ref lvZ, .ref luZ, .int ipZ, .int (nI nwZ), .int imZ, .int ilZ, .int irZ, .int iuZ, .int iaZ, .int icZ]))] := hD
  refine lv_aload_n hx hb dX3_mostOften_0 rfl (lv_at hl 0 rfl) ?_
  refine lv_aload_n hx hb dX3_mostOften_1 rfl (lv_at hl 0 rfl) ?_
  refine va_get (D := D) (ci := 3) (v := .int (nI nwZ)) (C := RX3) (T := TX3) (N := 16) hx hb hts (fun _ h => List.mem_cons_of_mem _ (List.mem_append_right _ h)) hown hK hP 0 rfl rfl 9 (by decide) (hts (.fieldLink RX3 88 "MapsByUseModel" "many" "I") (List.mem_of_getElem? (i := 1) (by decide +kernel))) (fun _ h9 => h9) rfl dX3_mostOften_2 ?_
  refine lv_if_ne (tgt := 12) hx hb dX3_mostOften_5 (by decide) (fun c_5 => ?_) (fun c_5 => ?_)
  · --5T
    exact absurd (by rw [hz0]; rfl) c_5
  · --5F
    refine lv_iconst (v := 1) hx hb dX3_mostOften_8 (by decide) ?_
    refine lv_goto (tgt := 13) hx hb dX3_mostOften_9 (by decide) ?_
    refine m_Vi (As := [.int 1]) (wr := []) (ws2 := fun _ => [(yZ, .inr (3, [.ref akZ, .ref avZ, .ref awZ, .ref aoZ, .ref amZ, .ref lkZ, .ref lvZ, .ref luZ, .int ipZ, .int (nI nwZ), .int imZ, .int ilZ, .int irZ, .int iuZ, .int iaZ, .int 1]))]) ⟨hx, hb, hml, hown, hts⟩ hA hK hP hD hS hl.1 (c_X3_fails l D I J s.heap.size yZ akZ avZ awZ aoZ amZ lkZ lvZ luZ ipZ (nI nwZ) imZ ilZ irZ iuZ iaZ icZ 1 ) (cwV 1 hts gX3_mostOften_X3_fails rfl rfl rfl (by decide +kernel) ⟨Nat.le_of_ble_eq_true rfl, Nat.le_of_ble_eq_true rfl⟩) [0] [] [0] 0 3 rfl rfl rfl rfl rfl (by decide) (by decide) (by decide) (by decide) (fun _ => rfl) rfl rfl (Nat.le_of_ble_eq_true rfl) dX3_mostOften_13 ⟨(by exact Nat.le_of_ble_eq_true rfl), (by exact Nat.le_of_ble_eq_true rfl)⟩ (fun r_13 u_13 H locs hw_13 hP hD hS => ?_)
    try dsimp only at hw_13
    have hP : va_P D vwCl [(yZ, .inr (3, [.ref akZ, .ref avZ, .ref awZ, .ref aoZ, .ref amZ, .ref lkZ, .ref lvZ, .ref luZ, .int ipZ, .int (nI nwZ), .int imZ, .int ilZ, .int irZ, .int iuZ, .int iaZ, .int 1]))] H := hP
    have hD : va_D A [(yZ, .inr (3, [.ref akZ, .ref avZ, .ref awZ, .ref aoZ, .ref amZ, .ref lkZ, .ref lvZ, .ref luZ, .int ipZ, .int (nI nwZ), .int imZ, .int ilZ, .int irZ, .int iuZ, .int iaZ, .int 1]))] := hD
    subst hw_13
    refine lv_if_eq (tgt := 21) hx hb dX3_mostOften_16 (by decide) (fun c_16 => ?_) (fun c_16 => ?_)
    · --5F16T
      exact absurd c_16 (by decide)
    · --5F16F
      refine lv_iconst (v := 0) hx hb dX3_mostOften_19 (by decide) ?_
      refine m_iret () hx hb hr hlocks hP hD hS dX3_mostOften_20 (by first | exact Nat.le_of_ble_eq_true rfl | omega) (by first | exact Nat.le_of_ble_eq_true rfl | omega) ?_
      rfl

set_option maxHeartbeats 4000000 in
set_option maxRecDepth 100000 in
theorem c_X3_mostOften (l : Launch) (D : va_G) (I J : ClassId) (sz : Nat) (yZ : Nat) (akZ : Nat) (avZ : Nat) (awZ : Nat) (aoZ : Nat) (amZ : Nat) (lkZ : Nat) (lvZ : Nat) (luZ : Nat) (ipZ : Int32) (nwZ : Nat) (imZ : Int32) (ilZ : Int32) (irZ : Int32) (iuZ : Int32) (iaZ : Int32) (icZ : Int32) (fZ : Nat → Int32) (gZ : Nat → Int32) (hpos : 0 < nwZ) (hnw : nwZ ≤ 200) : mCi l yX3_mostOften wsX3_mostOften 1 21 0 0 D I J [.ref yZ] [(yZ, .inr (3, [.ref akZ, .ref avZ, .ref awZ, .ref aoZ, .ref amZ, .ref lkZ, .ref lvZ, .ref luZ, .int ipZ, .int (nI nwZ), .int imZ, .int ilZ, .int irZ, .int iuZ, .int iaZ, .int icZ])), (awZ, .inl (I, 200, .inl fZ)), (aoZ, .inl (I, 200, .inl gZ))] sz (fun (x : Int32) (u : Unit) => x = (fZ (bW fZ gZ nwZ))) (fun (u : Unit) => [(yZ, .inr (3, [.ref akZ, .ref avZ, .ref awZ, .ref aoZ, .ref amZ, .ref lkZ, .ref lvZ, .ref luZ, .int ipZ, .int (nI nwZ), .int imZ, .int ilZ, .int irZ, .int iuZ, .int iaZ, .int 0])), (awZ, .inl (I, 200, .inl fZ)), (aoZ, .inl (I, 200, .inl gZ))]) := by
  refine m_ofi (cc := cX3_mostOften) (maxL := 3) (ret := (some .int)) (by decide) rfl (Nat.le_of_ble_eq_true rfl) ?_
  intro p e s m args below meth c A ls hx hb hr hlocks hml hts hown hin hK hP hD hA hS hl
  have hl : lv_has ls 3 [(0, .ref yZ)] := hl
  have hP : va_P D vwCl [(yZ, .inr (3, [.ref akZ, .ref avZ, .ref awZ, .ref aoZ, .ref amZ, .ref lkZ, .ref lvZ, .ref luZ, .int ipZ, .int (nI nwZ), .int imZ, .int ilZ, .int irZ, .int iuZ, .int iaZ, .int icZ])), (awZ, .inl (I, 200, .inl fZ)), (aoZ, .inl (I, 200, .inl gZ))] s.heap := hP
  have hD : va_D A [(yZ, .inr (3, [.ref akZ, .ref avZ, .ref awZ, .ref aoZ, .ref amZ, .ref lkZ, .ref lvZ, .ref luZ, .int ipZ, .int (nI nwZ), .int imZ, .int ilZ, .int irZ, .int iuZ, .int iaZ, .int icZ])), (awZ, .inl (I, 200, .inl fZ)), (aoZ, .inl (I, 200, .inl gZ))] := hD
  refine lv_aload_n hx hb dX3_mostOften_0 rfl (lv_at hl 0 rfl) ?_
  refine lv_aload_n hx hb dX3_mostOften_1 rfl (lv_at hl 0 rfl) ?_
  refine va_get (D := D) (ci := 3) (v := .int (nI nwZ)) (C := RX3) (T := TX3) (N := 16) hx hb hts (fun _ h => List.mem_cons_of_mem _ (List.mem_append_right _ h)) hown hK hP 0 rfl rfl 9 (by decide) (hts (.fieldLink RX3 88 "MapsByUseModel" "many" "I") (List.mem_of_getElem? (i := 1) (by decide +kernel))) (fun _ h9 => h9) rfl dX3_mostOften_2 ?_
  refine lv_if_ne (tgt := 12) hx hb dX3_mostOften_5 (by decide) (fun c_5 => ?_) (fun c_5 => ?_)
  · --5T
    refine lv_iconst (v := 0) hx hb dX3_mostOften_12 (by decide) ?_
    refine m_Vi (As := [.int 0]) (wr := [(awZ, .inl (I, 200, .inl fZ)), (aoZ, .inl (I, 200, .inl gZ))]) (ws2 := fun _ => [(yZ, .inr (3, [.ref akZ, .ref avZ, .ref awZ, .ref aoZ, .ref amZ, .ref lkZ, .ref lvZ, .ref luZ, .int ipZ, .int (nI nwZ), .int imZ, .int ilZ, .int irZ, .int iuZ, .int iaZ, .int 0])), (awZ, .inl (I, 200, .inl fZ)), (aoZ, .inl (I, 200, .inl gZ))]) ⟨hx, hb, hml, hown, hts⟩ hA hK hP hD hS hl.1 (c_X3_fails l D I J s.heap.size yZ akZ avZ awZ aoZ amZ lkZ lvZ luZ ipZ (nI nwZ) imZ ilZ irZ iuZ iaZ icZ 0 ) (cwV 1 hts gX3_mostOften_X3_fails rfl rfl rfl (by decide +kernel) ⟨Nat.le_of_ble_eq_true rfl, Nat.le_of_ble_eq_true rfl⟩) [0] [1, 2] [2, 0, 1] 0 3 rfl rfl rfl rfl rfl (by decide) (by decide) (by decide) (by decide) (fun _ => rfl) rfl rfl (Nat.le_of_ble_eq_true rfl) dX3_mostOften_13 ⟨(by exact Nat.le_of_ble_eq_true rfl), (by exact Nat.le_of_ble_eq_true rfl)⟩ (fun r_13 u_13 H locs hw_13 hP hD hS => ?_)
    try dsimp only at hw_13
    have hP : va_P D vwCl [(yZ, .inr (3, [.ref akZ, .ref avZ, .ref awZ, .ref aoZ, .ref amZ, .ref lkZ, .ref lvZ, .ref luZ, .int ipZ, .int (nI nwZ), .int imZ, .int ilZ, .int irZ, .int iuZ, .int iaZ, .int 0])), (awZ, .inl (I, 200, .inl fZ)), (aoZ, .inl (I, 200, .inl gZ))] H := hP
    have hD : va_D A [(yZ, .inr (3, [.ref akZ, .ref avZ, .ref awZ, .ref aoZ, .ref amZ, .ref lkZ, .ref lvZ, .ref luZ, .int ipZ, .int (nI nwZ), .int imZ, .int ilZ, .int irZ, .int iuZ, .int iaZ, .int 0])), (awZ, .inl (I, 200, .inl fZ)), (aoZ, .inl (I, 200, .inl gZ))] := hD
    subst hw_13
    refine lv_if_eq (tgt := 21) hx hb dX3_mostOften_16 (by decide) (fun c_16 => ?_) (fun c_16 => ?_)
    · --5T16T
      refine lv_iconst (v := 0) hx hb dX3_mostOften_21 (by decide) ?_
      refine m_topi (y := (nI 0)) (by rfl) ?_
      refine lv_istore_n (lv' := [(1, .int (nI 0)), (0, .ref yZ)]) hx hb dX3_mostOften_22 rfl hl (by decide) rfl (fun ls hl => ?_)
      refine lv_iconst (v := 1) hx hb dX3_mostOften_23 (by decide) ?_
      refine m_topi (y := (nI 1)) (by rfl) ?_
      refine lv_istore_n (lv' := [(2, .int (nI 1)), (1, .int (nI 0)), (0, .ref yZ)]) hx hb dX3_mostOften_24 rfl hl (by decide) rfl (fun ls hl => ?_)
      have loop_25 : ∀ (k_25 : Nat) (iZ : Nat) (x_1 : Int32) (ex_1 : x_1 = (nI (bW fZ gZ iZ))) (x_2 : Int32) (ex_2 : x_2 = (nI iZ)) (hi : iZ ≤ nwZ) (hi0 : 0 < iZ) (hm_ : nwZ - iZ < k_25) (H : Heap) (locs : List Loc) (hP : va_P D vwCl [(yZ, .inr (3, [.ref akZ, .ref avZ, .ref awZ, .ref aoZ, .ref amZ, .ref lkZ, .ref lvZ, .ref luZ, .int ipZ, .int (nI nwZ), .int imZ, .int ilZ, .int irZ, .int iuZ, .int iaZ, .int 0])), (awZ, .inl (I, 200, .inl fZ)), (aoZ, .inl (I, 200, .inl gZ))] H) (hD : va_D A [(yZ, .inr (3, [.ref akZ, .ref avZ, .ref awZ, .ref aoZ, .ref amZ, .ref lkZ, .ref lvZ, .ref luZ, .int ipZ, .int (nI nwZ), .int imZ, .int ilZ, .int irZ, .int iuZ, .int iaZ, .int 0])), (awZ, .inl (I, 200, .inl fZ)), (aoZ, .inl (I, 200, .inl gZ))]) (hS : va_S A s.heap H locs) (ls : Array Slot) (hl : lv_has ls 3 [(0, .ref yZ), (1, .int x_1), (2, .int x_2)]), W p l e (mRm 1 21 0 0) s m args below meth c H locs 0 0 (MQ below (va_Qi (fun (x : Int32) (u : Unit) => x = (fZ (bW fZ gZ nwZ))) (mB D (fun (u : Unit) => [(yZ, .inr (3, [.ref akZ, .ref avZ, .ref awZ, .ref aoZ, .ref amZ, .ref lkZ, .ref lvZ, .ref luZ, .int ipZ, .int (nI nwZ), .int imZ, .int ilZ, .int irZ, .int iuZ, .int iaZ, .int 0])), (awZ, .inl (I, 200, .inl fZ)), (aoZ, .inl (I, 200, .inl gZ))]) A) A) args s 0 0 A) (F0 m 25 ls []) := by
        intro k_25
        induction k_25 with
        | zero => intro iZ x_1 ex_1 x_2 ex_2 hi hi0 hm_; exact absurd hm_ (Nat.not_lt_zero _)
        | succ k_25 ih_25 =>
          intro iZ x_1 ex_1 x_2 ex_2 hi hi0 hm_ H locs hP hD hS ls hl
          subst ex_1
          subst ex_2
          have hbw := bW_lt fZ gZ iZ hi0
          refine lv_iload_n hx hb dX3_mostOften_25 rfl (lv_at hl 2 rfl) ?_
          refine lv_aload_n hx hb dX3_mostOften_26 rfl (lv_at hl 0 rfl) ?_
          refine va_get (D := D) (ci := 3) (v := .int (nI nwZ)) (C := RX3) (T := TX3) (N := 16) hx hb hts (fun _ h => List.mem_cons_of_mem _ (List.mem_append_right _ h)) hown hK hP 0 rfl rfl 9 (by decide) (hts (.fieldLink RX3 88 "MapsByUseModel" "many" "I") (List.mem_of_getElem? (i := 1) (by decide +kernel))) (fun _ h9 => h9) rfl dX3_mostOften_27 ?_
          refine lv_icmp_ge (tgt := 86) hx hb dX3_mostOften_30 (by decide) (fun c_30 => ?_) (fun c_30 => ?_)
          · --5T16TL2530T
            have qq := (nI_leI (by omega) (by omega)).mp c_30
            have ee : iZ = nwZ := by omega
            rw [ee] at hl hbw
            refine lv_aload_n hx hb dX3_mostOften_86 rfl (lv_at hl 0 rfl) ?_
            refine va_get (D := D) (ci := 3) (v := .ref awZ) (C := RX3) (T := TX3) (N := 16) hx hb hts (fun _ h => List.mem_cons_of_mem _ (List.mem_append_right _ h)) hown hK hP 0 rfl rfl 2 (by decide) (hts (.fieldLink RX3 16 "MapsByUseModel" "told" "[I") (List.mem_of_getElem? (i := 3) (by decide +kernel))) (fun _ h9 => h9) rfl dX3_mostOften_87 ?_
            refine lv_iload_n hx hb dX3_mostOften_90 rfl (lv_at hl 1 rfl) ?_
            refine m_iald (D := D) (cl := vwCl) hx hb hK hP 1 0 (j := (bW fZ gZ nwZ)) rfl rfl (by rfl) (by omega) (by omega) dX3_mostOften_91 ?_
            refine m_iret () hx hb hr hlocks hP hD hS dX3_mostOften_92 (by first | exact Nat.le_of_ble_eq_true rfl | omega) (by first | exact Nat.le_of_ble_eq_true rfl | omega) ?_
            rfl
          · --5T16TL2530F
            have hlt : iZ < nwZ := by
              rcases Nat.lt_or_ge iZ nwZ with q | q
              · exact q
              · exact absurd ((nI_leI (by omega) (by omega)).mpr q) c_30
            refine lv_aload_n hx hb dX3_mostOften_33 rfl (lv_at hl 0 rfl) ?_
            refine va_get (D := D) (ci := 3) (v := .ref aoZ) (C := RX3) (T := TX3) (N := 16) hx hb hts (fun _ h => List.mem_cons_of_mem _ (List.mem_append_right _ h)) hown hK hP 0 rfl rfl 3 (by decide) (hts (.fieldLink RX3 19 "MapsByUseModel" "often" "[I") (List.mem_of_getElem? (i := 2) (by decide +kernel))) (fun _ h9 => h9) rfl dX3_mostOften_34 ?_
            refine lv_iload_n hx hb dX3_mostOften_37 rfl (lv_at hl 2 rfl) ?_
            refine m_iald (D := D) (cl := vwCl) hx hb hK hP 2 0 (j := iZ) rfl rfl (by rfl) (by omega) (by omega) dX3_mostOften_38 ?_
            refine lv_aload_n hx hb dX3_mostOften_39 rfl (lv_at hl 0 rfl) ?_
            refine va_get (D := D) (ci := 3) (v := .ref aoZ) (C := RX3) (T := TX3) (N := 16) hx hb hts (fun _ h => List.mem_cons_of_mem _ (List.mem_append_right _ h)) hown hK hP 0 rfl rfl 3 (by decide) (hts (.fieldLink RX3 19 "MapsByUseModel" "often" "[I") (List.mem_of_getElem? (i := 2) (by decide +kernel))) (fun _ h9 => h9) rfl dX3_mostOften_40 ?_
            refine lv_iload_n hx hb dX3_mostOften_43 rfl (lv_at hl 1 rfl) ?_
            refine m_iald (D := D) (cl := vwCl) hx hb hK hP 2 0 (j := (bW fZ gZ iZ)) rfl rfl (by rfl) (by omega) (by omega) dX3_mostOften_44 ?_
            refine lv_icmp_gt (tgt := 78) hx hb dX3_mostOften_45 (by decide) (fun c_45 => ?_) (fun c_45 => ?_)
            · --5T16TL2530F45T
              refine lv_iload_n hx hb dX3_mostOften_78 rfl (lv_at hl 2 rfl) ?_
              refine lv_istore_n (lv' := [(1, .int (nI iZ)), (0, .ref yZ), (2, .int (nI iZ))]) hx hb dX3_mostOften_79 rfl hl (by decide) rfl (fun ls hl => ?_)
              refine lv_iinc (v := (nI (iZ + 1))) (lv' := [(2, .int (nI (iZ + 1))), (1, .int (nI iZ)), (0, .ref yZ)]) hx hb dX3_mostOften_80 hl (k := 2) rfl (nI_1 _) (by decide) rfl (fun ls hl => ?_)
              refine lv_goto (tgt := 25) hx hb dX3_mostOften_83 (by decide) ?_
              exact ih_25  (iZ + 1) _ (by rw [bW_t (cb_1 c_45)]) _ (by rfl) (by first | assumption | omega | rfl) (by first | assumption | omega | rfl) (by omega) _ _ hP hD hS ls (lv_sub hl [2, 1, 0] rfl)
            · --5T16TL2530F45F
              refine lv_aload_n hx hb dX3_mostOften_48 rfl (lv_at hl 0 rfl) ?_
              refine va_get (D := D) (ci := 3) (v := .ref aoZ) (C := RX3) (T := TX3) (N := 16) hx hb hts (fun _ h => List.mem_cons_of_mem _ (List.mem_append_right _ h)) hown hK hP 0 rfl rfl 3 (by decide) (hts (.fieldLink RX3 19 "MapsByUseModel" "often" "[I") (List.mem_of_getElem? (i := 2) (by decide +kernel))) (fun _ h9 => h9) rfl dX3_mostOften_49 ?_
              refine lv_iload_n hx hb dX3_mostOften_52 rfl (lv_at hl 2 rfl) ?_
              refine m_iald (D := D) (cl := vwCl) hx hb hK hP 2 0 (j := iZ) rfl rfl (by rfl) (by omega) (by omega) dX3_mostOften_53 ?_
              refine lv_aload_n hx hb dX3_mostOften_54 rfl (lv_at hl 0 rfl) ?_
              refine va_get (D := D) (ci := 3) (v := .ref aoZ) (C := RX3) (T := TX3) (N := 16) hx hb hts (fun _ h => List.mem_cons_of_mem _ (List.mem_append_right _ h)) hown hK hP 0 rfl rfl 3 (by decide) (hts (.fieldLink RX3 19 "MapsByUseModel" "often" "[I") (List.mem_of_getElem? (i := 2) (by decide +kernel))) (fun _ h9 => h9) rfl dX3_mostOften_55 ?_
              refine lv_iload_n hx hb dX3_mostOften_58 rfl (lv_at hl 1 rfl) ?_
              refine m_iald (D := D) (cl := vwCl) hx hb hK hP 2 0 (j := (bW fZ gZ iZ)) rfl rfl (by rfl) (by omega) (by omega) dX3_mostOften_59 ?_
              refine lv_icmp_ne (tgt := 80) hx hb dX3_mostOften_60 (by decide) (fun c_60 => ?_) (fun c_60 => ?_)
              · --5T16TL2530F45F60T
                refine lv_iinc (v := (nI (iZ + 1))) (lv' := [(2, .int (nI (iZ + 1))), (0, .ref yZ), (1, .int (nI (bW fZ gZ iZ)))]) hx hb dX3_mostOften_80 hl (k := 2) rfl (nI_1 _) (by decide) rfl (fun ls hl => ?_)
                refine lv_goto (tgt := 25) hx hb dX3_mostOften_83 (by decide) ?_
                exact ih_25  (iZ + 1) _ (by rw [bW_f (cb_2 c_45 c_60)]) _ (by rfl) (by first | assumption | omega | rfl) (by first | assumption | omega | rfl) (by omega) _ _ hP hD hS ls (lv_sub hl [1, 2, 0] rfl)
              · --5T16TL2530F45F60F
                refine lv_aload_n hx hb dX3_mostOften_63 rfl (lv_at hl 0 rfl) ?_
                refine va_get (D := D) (ci := 3) (v := .ref awZ) (C := RX3) (T := TX3) (N := 16) hx hb hts (fun _ h => List.mem_cons_of_mem _ (List.mem_append_right _ h)) hown hK hP 0 rfl rfl 2 (by decide) (hts (.fieldLink RX3 16 "MapsByUseModel" "told" "[I") (List.mem_of_getElem? (i := 3) (by decide +kernel))) (fun _ h9 => h9) rfl dX3_mostOften_64 ?_
                refine lv_iload_n hx hb dX3_mostOften_67 rfl (lv_at hl 2 rfl) ?_
                refine m_iald (D := D) (cl := vwCl) hx hb hK hP 1 0 (j := iZ) rfl rfl (by rfl) (by omega) (by omega) dX3_mostOften_68 ?_
                refine lv_aload_n hx hb dX3_mostOften_69 rfl (lv_at hl 0 rfl) ?_
                refine va_get (D := D) (ci := 3) (v := .ref awZ) (C := RX3) (T := TX3) (N := 16) hx hb hts (fun _ h => List.mem_cons_of_mem _ (List.mem_append_right _ h)) hown hK hP 0 rfl rfl 2 (by decide) (hts (.fieldLink RX3 16 "MapsByUseModel" "told" "[I") (List.mem_of_getElem? (i := 3) (by decide +kernel))) (fun _ h9 => h9) rfl dX3_mostOften_70 ?_
                refine lv_iload_n hx hb dX3_mostOften_73 rfl (lv_at hl 1 rfl) ?_
                refine m_iald (D := D) (cl := vwCl) hx hb hK hP 1 0 (j := (bW fZ gZ iZ)) rfl rfl (by rfl) (by omega) (by omega) dX3_mostOften_74 ?_
                refine lv_icmp_ge (tgt := 80) hx hb dX3_mostOften_75 (by decide) (fun c_75 => ?_) (fun c_75 => ?_)
                · --5T16TL2530F45F60F75T
                  refine lv_iinc (v := (nI (iZ + 1))) (lv' := [(2, .int (nI (iZ + 1))), (0, .ref yZ), (1, .int (nI (bW fZ gZ iZ)))]) hx hb dX3_mostOften_80 hl (k := 2) rfl (nI_1 _) (by decide) rfl (fun ls hl => ?_)
                  refine lv_goto (tgt := 25) hx hb dX3_mostOften_83 (by decide) ?_
                  exact ih_25  (iZ + 1) _ (by rw [bW_f (cb_3 c_45 c_60 c_75)]) _ (by rfl) (by first | assumption | omega | rfl) (by first | assumption | omega | rfl) (by omega) _ _ hP hD hS ls (lv_sub hl [1, 2, 0] rfl)
                · --5T16TL2530F45F60F75F
                  refine lv_iload_n hx hb dX3_mostOften_78 rfl (lv_at hl 2 rfl) ?_
                  refine lv_istore_n (lv' := [(1, .int (nI iZ)), (0, .ref yZ), (2, .int (nI iZ))]) hx hb dX3_mostOften_79 rfl hl (by decide) rfl (fun ls hl => ?_)
                  refine lv_iinc (v := (nI (iZ + 1))) (lv' := [(2, .int (nI (iZ + 1))), (1, .int (nI iZ)), (0, .ref yZ)]) hx hb dX3_mostOften_80 hl (k := 2) rfl (nI_1 _) (by decide) rfl (fun ls hl => ?_)
                  refine lv_goto (tgt := 25) hx hb dX3_mostOften_83 (by decide) ?_
                  exact ih_25  (iZ + 1) _ (by rw [bW_t (cb_4 c_45 c_60 c_75)]) _ (by rfl) (by first | assumption | omega | rfl) (by first | assumption | omega | rfl) (by omega) _ _ hP hD hS ls (lv_sub hl [2, 1, 0] rfl)
      exact loop_25 (nwZ - 1 + 1) 1 _ (by simp [bW, cb]) _ (by rfl) (by first | assumption | omega | rfl) (by first | assumption | omega | rfl) (by exact Nat.lt_succ_self _) _ _ hP hD hS ls (lv_sub hl [2, 1, 0] rfl)
    · --5T16F
      exact absurd (by decide) c_16
  · --5F
    exact absurd c_5 (nI_ne0 hpos (by omega))

set_option maxHeartbeats 4000000 in
set_option maxRecDepth 100000 in
theorem c_X3_markAt (l : Launch) (D : va_G) (I J : ClassId) (sz : Nat) (yZ : Nat) (akZ : Nat) (avZ : Nat) (awZ : Nat) (aoZ : Nat) (amZ : Nat) (lkZ : Nat) (lvZ : Nat) (luZ : Nat) (ipZ : Int32) (iwZ : Int32) (nmZ : Nat) (ilZ : Int32) (irZ : Int32) (iuZ : Int32) (iaZ : Int32) (icZ : Int32) (fmZ : Nat → Int32) (kZ : Int32) (hnm : nmZ ≤ 200) : mCi l yX3_markAt wsX3_markAt 1 24 0 0 D I J [.ref yZ, .int kZ] [(yZ, .inr (3, [.ref akZ, .ref avZ, .ref awZ, .ref aoZ, .ref amZ, .ref lkZ, .ref lvZ, .ref luZ, .int ipZ, .int iwZ, .int (nI nmZ), .int ilZ, .int irZ, .int iuZ, .int iaZ, .int icZ])), (amZ, .inl (I, 200, .inl fmZ))] sz (fun (x : Int32) (u : Unit) => x = (iO (rL fmZ kZ nmZ))) (fun (u : Unit) => [(yZ, .inr (3, [.ref akZ, .ref avZ, .ref awZ, .ref aoZ, .ref amZ, .ref lkZ, .ref lvZ, .ref luZ, .int ipZ, .int iwZ, .int (nI nmZ), .int ilZ, .int irZ, .int iuZ, .int iaZ, .int icZ])), (amZ, .inl (I, 200, .inl fmZ))]) := by
  refine m_ofi (cc := cX3_markAt) (maxL := 2) (ret := (some .int)) (by decide) rfl (Nat.le_of_ble_eq_true rfl) ?_
  intro p e s m args below meth c A ls hx hb hr hlocks hml hts hown hin hK hP hD hA hS hl
  have hl : lv_has ls 2 [(0, .ref yZ), (1, .int kZ)] := hl
  have hP : va_P D vwCl [(yZ, .inr (3, [.ref akZ, .ref avZ, .ref awZ, .ref aoZ, .ref amZ, .ref lkZ, .ref lvZ, .ref luZ, .int ipZ, .int iwZ, .int (nI nmZ), .int ilZ, .int irZ, .int iuZ, .int iaZ, .int icZ])), (amZ, .inl (I, 200, .inl fmZ))] s.heap := hP
  have hD : va_D A [(yZ, .inr (3, [.ref akZ, .ref avZ, .ref awZ, .ref aoZ, .ref amZ, .ref lkZ, .ref lvZ, .ref luZ, .int ipZ, .int iwZ, .int (nI nmZ), .int ilZ, .int irZ, .int iuZ, .int iaZ, .int icZ])), (amZ, .inl (I, 200, .inl fmZ))] := hD
  refine lv_aload_n hx hb dX3_markAt_0 rfl (lv_at hl 0 rfl) ?_
  refine va_get (D := D) (ci := 3) (v := .ref amZ) (C := RX3) (T := TX3) (N := 16) hx hb hts (fun _ h => List.mem_cons_of_mem _ (List.mem_append_right _ h)) hown hK hP 0 rfl rfl 4 (by decide) (hts (.fieldLink RX3 22 "MapsByUseModel" "marks" "[I") (List.mem_of_getElem? (i := 1) (by decide +kernel))) (fun _ h9 => h9) rfl dX3_markAt_1 ?_
  refine lv_aload_n hx hb dX3_markAt_4 rfl (lv_at hl 0 rfl) ?_
  refine va_get (D := D) (ci := 3) (v := .int (nI nmZ)) (C := RX3) (T := TX3) (N := 16) hx hb hts (fun _ h => List.mem_cons_of_mem _ (List.mem_append_right _ h)) hown hK hP 0 rfl rfl 10 (by decide) (hts (.fieldLink RX3 94 "MapsByUseModel" "markMany" "I") (List.mem_of_getElem? (i := 2) (by decide +kernel))) (fun _ h9 => h9) rfl dX3_markAt_5 ?_
  refine lv_iload_n hx hb dX3_markAt_8 rfl (lv_at hl 1 rfl) ?_
  refine m_Si (As := [.ref amZ, .int (nI nmZ), .int kZ]) (wr := [(yZ, .inr (3, [.ref akZ, .ref avZ, .ref awZ, .ref aoZ, .ref amZ, .ref lkZ, .ref lvZ, .ref luZ, .int ipZ, .int iwZ, .int (nI nmZ), .int ilZ, .int irZ, .int iuZ, .int iaZ, .int icZ]))]) (ws2 := fun _ => [(yZ, .inr (3, [.ref akZ, .ref avZ, .ref awZ, .ref aoZ, .ref amZ, .ref lkZ, .ref lvZ, .ref luZ, .int ipZ, .int iwZ, .int (nI nmZ), .int ilZ, .int irZ, .int iuZ, .int iaZ, .int icZ])), (amZ, .inl (I, 200, .inl fmZ))]) ⟨hx, hb, hml, hown, hts⟩ hA hK hP hD hS hl.1 (c_X3_find l D I J s.heap.size amZ 200 fmZ nmZ kZ (by omega) (by omega)) (cwS 3 hts gX3_markAt_X3_find rfl rfl rfl (by decide +kernel) ⟨Nat.le_of_ble_eq_true rfl, Nat.le_of_ble_eq_true rfl⟩) [1] [0] [0, 1] rfl rfl (by decide) (by decide) (by decide) (by decide) (fun _ => rfl) rfl rfl (Nat.le_of_ble_eq_true rfl) dX3_markAt_9 ⟨(by exact Nat.le_of_ble_eq_true rfl), (by exact Nat.le_of_ble_eq_true rfl)⟩ (fun r_9 u_9 H locs hw_9 hP hD hS => ?_)
  try dsimp only at hw_9
  have hP : va_P D vwCl [(yZ, .inr (3, [.ref akZ, .ref avZ, .ref awZ, .ref aoZ, .ref amZ, .ref lkZ, .ref lvZ, .ref luZ, .int ipZ, .int iwZ, .int (nI nmZ), .int ilZ, .int irZ, .int iuZ, .int iaZ, .int icZ])), (amZ, .inl (I, 200, .inl fmZ))] H := hP
  have hD : va_D A [(yZ, .inr (3, [.ref akZ, .ref avZ, .ref awZ, .ref aoZ, .ref amZ, .ref lkZ, .ref lvZ, .ref luZ, .int ipZ, .int iwZ, .int (nI nmZ), .int ilZ, .int irZ, .int iuZ, .int iaZ, .int icZ])), (amZ, .inl (I, 200, .inl fmZ))] := hD
  subst hw_9
  refine m_iret () hx hb hr hlocks hP hD hS dX3_markAt_12 (by first | exact Nat.le_of_ble_eq_true rfl | omega) (by first | exact Nat.le_of_ble_eq_true rfl | omega) ?_
  rfl

set_option maxHeartbeats 4000000 in
set_option maxRecDepth 100000 in
theorem c_X3_marks (l : Launch) (D : va_G) (I J : ClassId) (sz : Nat) (yZ : Nat) (akZ : Nat) (avZ : Nat) (awZ : Nat) (aoZ : Nat) (amZ : Nat) (lkZ : Nat) (lvZ : Nat) (luZ : Nat) (ipZ : Int32) (iwZ : Int32) (nmZ : Nat) (ilZ : Int32) (irZ : Int32) (iuZ : Int32) (iaZ : Int32) (icZ : Int32) (fmZ : Nat → Int32) (kZ : Int32) (hnew : rL fmZ kZ nmZ = none → nmZ < 200) (hnm : nmZ ≤ 200) : mCv l yX3_marks wsX3_marks 2 45 0 0 D I J [.ref yZ, .int kZ] [(yZ, .inr (3, [.ref akZ, .ref avZ, .ref awZ, .ref aoZ, .ref amZ, .ref lkZ, .ref lvZ, .ref luZ, .int ipZ, .int iwZ, .int (nI nmZ), .int ilZ, .int irZ, .int iuZ, .int iaZ, .int icZ])), (amZ, .inl (I, 200, .inl fmZ))] sz (fun (u : Unit) => True) (fun (u : Unit) => [(yZ, .inr (3, [.ref akZ, .ref avZ, .ref awZ, .ref aoZ, .ref amZ, .ref lkZ, .ref lvZ, .ref luZ, .int ipZ, .int iwZ, .int (nI (insN nmZ (rL fmZ kZ nmZ))), .int ilZ, .int irZ, .int iuZ, .int iaZ, .int icZ])), (amZ, .inl (I, 200, .inl (insF fmZ nmZ kZ (rL fmZ kZ nmZ))))]) := by
  refine m_ofv (cc := cX3_marks) (maxL := 2) (ret := none) (by decide) rfl (Nat.le_of_ble_eq_true rfl) ?_
  intro p e s m args below meth c A ls hx hb hr hlocks hml hts hown hin hK hP hD hA hS hl
  have hl : lv_has ls 2 [(0, .ref yZ), (1, .int kZ)] := hl
  have hP : va_P D vwCl [(yZ, .inr (3, [.ref akZ, .ref avZ, .ref awZ, .ref aoZ, .ref amZ, .ref lkZ, .ref lvZ, .ref luZ, .int ipZ, .int iwZ, .int (nI nmZ), .int ilZ, .int irZ, .int iuZ, .int iaZ, .int icZ])), (amZ, .inl (I, 200, .inl fmZ))] s.heap := hP
  have hD : va_D A [(yZ, .inr (3, [.ref akZ, .ref avZ, .ref awZ, .ref aoZ, .ref amZ, .ref lkZ, .ref lvZ, .ref luZ, .int ipZ, .int iwZ, .int (nI nmZ), .int ilZ, .int irZ, .int iuZ, .int iaZ, .int icZ])), (amZ, .inl (I, 200, .inl fmZ))] := hD
  refine lv_aload_n hx hb dX3_marks_0 rfl (lv_at hl 0 rfl) ?_
  refine lv_iload_n hx hb dX3_marks_1 rfl (lv_at hl 1 rfl) ?_
  refine m_Vi (As := [.int kZ]) (wr := []) (ws2 := fun _ => [(yZ, .inr (3, [.ref akZ, .ref avZ, .ref awZ, .ref aoZ, .ref amZ, .ref lkZ, .ref lvZ, .ref luZ, .int ipZ, .int iwZ, .int (nI nmZ), .int ilZ, .int irZ, .int iuZ, .int iaZ, .int icZ])), (amZ, .inl (I, 200, .inl fmZ))]) ⟨hx, hb, hml, hown, hts⟩ hA hK hP hD hS hl.1 (c_X3_markAt l D I J s.heap.size yZ akZ avZ awZ aoZ amZ lkZ lvZ luZ ipZ iwZ nmZ ilZ irZ iuZ iaZ icZ fmZ kZ (by omega)) (cwV 1 hts gX3_marks_X3_markAt rfl rfl rfl (by decide +kernel) ⟨Nat.le_of_ble_eq_true rfl, Nat.le_of_ble_eq_true rfl⟩) [0, 1] [] [0, 1] 0 3 rfl rfl rfl rfl rfl (by decide) (by decide) (by decide) (by decide) (fun _ => rfl) rfl rfl (Nat.le_of_ble_eq_true rfl) dX3_marks_2 ⟨(by exact Nat.le_of_ble_eq_true rfl), (by exact Nat.le_of_ble_eq_true rfl)⟩ (fun r_2 u_2 H locs hw_2 hP hD hS => ?_)
  try dsimp only at hw_2
  have hP : va_P D vwCl [(yZ, .inr (3, [.ref akZ, .ref avZ, .ref awZ, .ref aoZ, .ref amZ, .ref lkZ, .ref lvZ, .ref luZ, .int ipZ, .int iwZ, .int (nI nmZ), .int ilZ, .int irZ, .int iuZ, .int iaZ, .int icZ])), (amZ, .inl (I, 200, .inl fmZ))] H := hP
  have hD : va_D A [(yZ, .inr (3, [.ref akZ, .ref avZ, .ref awZ, .ref aoZ, .ref amZ, .ref lkZ, .ref lvZ, .ref luZ, .int ipZ, .int iwZ, .int (nI nmZ), .int ilZ, .int irZ, .int iuZ, .int iaZ, .int icZ])), (amZ, .inl (I, 200, .inl fmZ))] := hD
  subst hw_2
  refine lv_if_lt (tgt := 9) hx hb dX3_marks_5 (by decide) (fun c_5 => ?_) (fun c_5 => ?_)
  · --5T
    have ho : rL fmZ kZ nmZ = none := (iO_neg (rL_lt (by omega))).mp c_5
    have hlt := hnew ho
    refine lv_aload_n hx hb dX3_marks_9 rfl (lv_at hl 0 rfl) ?_
    refine va_get (D := D) (ci := 3) (v := .ref amZ) (C := RX3) (T := TX3) (N := 16) hx hb hts (fun _ h => List.mem_cons_of_mem _ (List.mem_append_right _ h)) hown hK hP 0 rfl rfl 4 (by decide) (hts (.fieldLink RX3 22 "MapsByUseModel" "marks" "[I") (List.mem_of_getElem? (i := 1) (by decide +kernel))) (fun _ h9 => h9) rfl dX3_marks_10 ?_
    refine lv_aload_n hx hb dX3_marks_13 rfl (lv_at hl 0 rfl) ?_
    refine va_get (D := D) (ci := 3) (v := .int (nI nmZ)) (C := RX3) (T := TX3) (N := 16) hx hb hts (fun _ h => List.mem_cons_of_mem _ (List.mem_append_right _ h)) hown hK hP 0 rfl rfl 10 (by decide) (hts (.fieldLink RX3 94 "MapsByUseModel" "markMany" "I") (List.mem_of_getElem? (i := 2) (by decide +kernel))) (fun _ h9 => h9) rfl dX3_marks_14 ?_
    refine lv_iload_n hx hb dX3_marks_17 rfl (lv_at hl 1 rfl) ?_
    refine m_iast (D := D) (cl := vwCl) hx hb hK hP hD hS 1 0 (j := nmZ) rfl rfl (by rfl) (by omega) (by omega) dX3_marks_18 (fun H locs hP hD hS => ?_)
    have hP : va_P D vwCl [(yZ, .inr (3, [.ref akZ, .ref avZ, .ref awZ, .ref aoZ, .ref amZ, .ref lkZ, .ref lvZ, .ref luZ, .int ipZ, .int iwZ, .int (nI nmZ), .int ilZ, .int irZ, .int iuZ, .int iaZ, .int icZ])), (amZ, .inl (I, 200, .inl (upd fmZ nmZ kZ)))] H := hP
    have hD : va_D A [(yZ, .inr (3, [.ref akZ, .ref avZ, .ref awZ, .ref aoZ, .ref amZ, .ref lkZ, .ref lvZ, .ref luZ, .int ipZ, .int iwZ, .int (nI nmZ), .int ilZ, .int irZ, .int iuZ, .int iaZ, .int icZ])), (amZ, .inl (I, 200, .inl (upd fmZ nmZ kZ)))] := hD
    refine lv_aload_n hx hb dX3_marks_19 rfl (lv_at hl 0 rfl) ?_
    refine lv_dup hx hb dX3_marks_20 rfl ?_
    refine va_get (D := D) (ci := 3) (v := .int (nI nmZ)) (C := RX3) (T := TX3) (N := 16) hx hb hts (fun _ h => List.mem_cons_of_mem _ (List.mem_append_right _ h)) hown hK hP 0 rfl rfl 10 (by decide) (hts (.fieldLink RX3 94 "MapsByUseModel" "markMany" "I") (List.mem_of_getElem? (i := 2) (by decide +kernel))) (fun _ h9 => h9) rfl dX3_marks_21 ?_
    refine lv_iconst (v := 1) hx hb dX3_marks_24 (by decide) ?_
    refine lv_iadd hx hb dX3_marks_25 ?_
    refine m_topi (y := (nI (nmZ + 1))) (by exact nI_1 nmZ) ?_
    refine va_put (D := D) (ci := 3) (v := .int (nI (nmZ + 1))) (ty := .int) (C := RX3) (T := TX3) (N := 16) hx hb hts (fun _ h => List.mem_cons_of_mem _ (List.mem_append_right _ h)) tyX3 tyX3_ok nmX3 hown hK hP hD hS 0 rfl rfl 10 (by decide) (hts (.fieldLink RX3 94 "MapsByUseModel" "markMany" "I") (List.mem_of_getElem? (i := 2) (by decide +kernel))) (fun _ h9 => h9) rfl (by decide +kernel) rfl rfl (Nat.le_of_ble_eq_true rfl) dX3_marks_26 (fun H locs hP hD hS => ?_)
    have hP : va_P D vwCl [(yZ, .inr (3, [.ref akZ, .ref avZ, .ref awZ, .ref aoZ, .ref amZ, .ref lkZ, .ref lvZ, .ref luZ, .int ipZ, .int iwZ, .int (nI (nmZ + 1)), .int ilZ, .int irZ, .int iuZ, .int iaZ, .int icZ])), (amZ, .inl (I, 200, .inl (upd fmZ nmZ kZ)))] H := hP
    have hD : va_D A [(yZ, .inr (3, [.ref akZ, .ref avZ, .ref awZ, .ref aoZ, .ref amZ, .ref lkZ, .ref lvZ, .ref luZ, .int ipZ, .int iwZ, .int (nI (nmZ + 1)), .int ilZ, .int irZ, .int iuZ, .int iaZ, .int icZ])), (amZ, .inl (I, 200, .inl (upd fmZ nmZ kZ)))] := hD
    have hEq : [(yZ, .inr (3, [.ref akZ, .ref avZ, .ref awZ, .ref aoZ, .ref amZ, .ref lkZ, .ref lvZ, .ref luZ, .int ipZ, .int iwZ, .int (nI (nmZ + 1)), .int ilZ, .int irZ, .int iuZ, .int iaZ, .int icZ])), (amZ, .inl (I, 200, .inl (upd fmZ nmZ kZ)))] = ([(yZ, .inr (3, [.ref akZ, .ref avZ, .ref awZ, .ref aoZ, .ref amZ, .ref lkZ, .ref lvZ, .ref luZ, .int ipZ, .int iwZ, .int (nI (insN nmZ (rL fmZ kZ nmZ))), .int ilZ, .int irZ, .int iuZ, .int iaZ, .int icZ])), (amZ, .inl (I, 200, .inl (insF fmZ nmZ kZ (rL fmZ kZ nmZ))))] : va_W) := (by rw [ho]; rfl)
    rw [hEq] at hP hD
    refine m_vret () hx hb hr hlocks hP hD hS dX3_marks_29 (by first | exact Nat.le_of_ble_eq_true rfl | omega) (by first | exact Nat.le_of_ble_eq_true rfl | omega) ?_
    trivial
  · --5F
    obtain ⟨jZ, ho⟩ := iO_lts c_5
    have hj := (rL_some ho).1
    have hEq : [(yZ, .inr (3, [.ref akZ, .ref avZ, .ref awZ, .ref aoZ, .ref amZ, .ref lkZ, .ref lvZ, .ref luZ, .int ipZ, .int iwZ, .int (nI nmZ), .int ilZ, .int irZ, .int iuZ, .int iaZ, .int icZ])), (amZ, .inl (I, 200, .inl fmZ))] = ([(yZ, .inr (3, [.ref akZ, .ref avZ, .ref awZ, .ref aoZ, .ref amZ, .ref lkZ, .ref lvZ, .ref luZ, .int ipZ, .int iwZ, .int (nI (insN nmZ (rL fmZ kZ nmZ))), .int ilZ, .int irZ, .int iuZ, .int iaZ, .int icZ])), (amZ, .inl (I, 200, .inl (insF fmZ nmZ kZ (rL fmZ kZ nmZ))))] : va_W) := (by rw [ho]; rfl)
    rw [hEq] at hP hD
    refine m_vret () hx hb hr hlocks hP hD hS dX3_marks_8 (by first | exact Nat.le_of_ble_eq_true rfl | omega) (by first | exact Nat.le_of_ble_eq_true rfl | omega) ?_
    trivial

set_option maxHeartbeats 4000000 in
set_option maxRecDepth 100000 in
theorem c_X3_unmarks (l : Launch) (D : va_G) (I J : ClassId) (sz : Nat) (yZ : Nat) (akZ : Nat) (avZ : Nat) (awZ : Nat) (aoZ : Nat) (amZ : Nat) (lkZ : Nat) (lvZ : Nat) (luZ : Nat) (ipZ : Int32) (iwZ : Int32) (nmZ : Nat) (ilZ : Int32) (irZ : Int32) (iuZ : Int32) (iaZ : Int32) (icZ : Int32) (fmZ : Nat → Int32) (jZ : Nat) (hj : jZ < nmZ) (hnm : nmZ ≤ 200) : mCv l yX3_unmarks wsX3_unmarks 0 0 0 0 D I J [.ref yZ, .int (nI jZ)] [(yZ, .inr (3, [.ref akZ, .ref avZ, .ref awZ, .ref aoZ, .ref amZ, .ref lkZ, .ref lvZ, .ref luZ, .int ipZ, .int iwZ, .int (nI nmZ), .int ilZ, .int irZ, .int iuZ, .int iaZ, .int icZ])), (amZ, .inl (I, 200, .inl fmZ))] sz (fun (u : Unit) => True) (fun (u : Unit) => [(yZ, .inr (3, [.ref akZ, .ref avZ, .ref awZ, .ref aoZ, .ref amZ, .ref lkZ, .ref lvZ, .ref luZ, .int ipZ, .int iwZ, .int (nI (nmZ - 1)), .int ilZ, .int irZ, .int iuZ, .int iaZ, .int icZ])), (amZ, .inl (I, 200, .inl (swF fmZ nmZ jZ)))]) := by
  refine m_ofv (cc := cX3_unmarks) (maxL := 2) (ret := none) (by decide) rfl (Nat.le_of_ble_eq_true rfl) ?_
  intro p e s m args below meth c A ls hx hb hr hlocks hml hts hown hin hK hP hD hA hS hl
  have hl : lv_has ls 2 [(0, .ref yZ), (1, .int (nI jZ))] := hl
  have hP : va_P D vwCl [(yZ, .inr (3, [.ref akZ, .ref avZ, .ref awZ, .ref aoZ, .ref amZ, .ref lkZ, .ref lvZ, .ref luZ, .int ipZ, .int iwZ, .int (nI nmZ), .int ilZ, .int irZ, .int iuZ, .int iaZ, .int icZ])), (amZ, .inl (I, 200, .inl fmZ))] s.heap := hP
  have hD : va_D A [(yZ, .inr (3, [.ref akZ, .ref avZ, .ref awZ, .ref aoZ, .ref amZ, .ref lkZ, .ref lvZ, .ref luZ, .int ipZ, .int iwZ, .int (nI nmZ), .int ilZ, .int irZ, .int iuZ, .int iaZ, .int icZ])), (amZ, .inl (I, 200, .inl fmZ))] := hD
  refine lv_aload_n hx hb dX3_unmarks_0 rfl (lv_at hl 0 rfl) ?_
  refine lv_dup hx hb dX3_unmarks_1 rfl ?_
  refine va_get (D := D) (ci := 3) (v := .int (nI nmZ)) (C := RX3) (T := TX3) (N := 16) hx hb hts (fun _ h => List.mem_cons_of_mem _ (List.mem_append_right _ h)) hown hK hP 0 rfl rfl 10 (by decide) (hts (.fieldLink RX3 94 "MapsByUseModel" "markMany" "I") (List.mem_of_getElem? (i := 1) (by decide +kernel))) (fun _ h9 => h9) rfl dX3_unmarks_2 ?_
  refine lv_iconst (v := 1) hx hb dX3_unmarks_5 (by decide) ?_
  refine lv_isub hx hb dX3_unmarks_6 ?_
  refine m_topi (y := (nI (nmZ - 1))) (by exact pk_sub (a := nmZ) (b := 1) (by omega)) ?_
  refine va_put (D := D) (ci := 3) (v := .int (nI (nmZ - 1))) (ty := .int) (C := RX3) (T := TX3) (N := 16) hx hb hts (fun _ h => List.mem_cons_of_mem _ (List.mem_append_right _ h)) tyX3 tyX3_ok nmX3 hown hK hP hD hS 0 rfl rfl 10 (by decide) (hts (.fieldLink RX3 94 "MapsByUseModel" "markMany" "I") (List.mem_of_getElem? (i := 1) (by decide +kernel))) (fun _ h9 => h9) rfl (by decide +kernel) rfl rfl (Nat.le_of_ble_eq_true rfl) dX3_unmarks_7 (fun H locs hP hD hS => ?_)
  have hP : va_P D vwCl [(yZ, .inr (3, [.ref akZ, .ref avZ, .ref awZ, .ref aoZ, .ref amZ, .ref lkZ, .ref lvZ, .ref luZ, .int ipZ, .int iwZ, .int (nI (nmZ - 1)), .int ilZ, .int irZ, .int iuZ, .int iaZ, .int icZ])), (amZ, .inl (I, 200, .inl fmZ))] H := hP
  have hD : va_D A [(yZ, .inr (3, [.ref akZ, .ref avZ, .ref awZ, .ref aoZ, .ref amZ, .ref lkZ, .ref lvZ, .ref luZ, .int ipZ, .int iwZ, .int (nI (nmZ - 1)), .int ilZ, .int irZ, .int iuZ, .int iaZ, .int icZ])), (amZ, .inl (I, 200, .inl fmZ))] := hD
  refine lv_aload_n hx hb dX3_unmarks_10 rfl (lv_at hl 0 rfl) ?_
  refine va_get (D := D) (ci := 3) (v := .ref amZ) (C := RX3) (T := TX3) (N := 16) hx hb hts (fun _ h => List.mem_cons_of_mem _ (List.mem_append_right _ h)) hown hK hP 0 rfl rfl 4 (by decide) (hts (.fieldLink RX3 22 "MapsByUseModel" "marks" "[I") (List.mem_of_getElem? (i := 2) (by decide +kernel))) (fun _ h9 => h9) rfl dX3_unmarks_11 ?_
  refine lv_iload_n hx hb dX3_unmarks_14 rfl (lv_at hl 1 rfl) ?_
  refine lv_aload_n hx hb dX3_unmarks_15 rfl (lv_at hl 0 rfl) ?_
  refine va_get (D := D) (ci := 3) (v := .ref amZ) (C := RX3) (T := TX3) (N := 16) hx hb hts (fun _ h => List.mem_cons_of_mem _ (List.mem_append_right _ h)) hown hK hP 0 rfl rfl 4 (by decide) (hts (.fieldLink RX3 22 "MapsByUseModel" "marks" "[I") (List.mem_of_getElem? (i := 2) (by decide +kernel))) (fun _ h9 => h9) rfl dX3_unmarks_16 ?_
  refine lv_aload_n hx hb dX3_unmarks_19 rfl (lv_at hl 0 rfl) ?_
  refine va_get (D := D) (ci := 3) (v := .int (nI (nmZ - 1))) (C := RX3) (T := TX3) (N := 16) hx hb hts (fun _ h => List.mem_cons_of_mem _ (List.mem_append_right _ h)) hown hK hP 0 rfl rfl 10 (by decide) (hts (.fieldLink RX3 94 "MapsByUseModel" "markMany" "I") (List.mem_of_getElem? (i := 1) (by decide +kernel))) (fun _ h9 => h9) rfl dX3_unmarks_20 ?_
  refine m_iald (D := D) (cl := vwCl) hx hb hK hP 1 0 (j := (nmZ - 1)) rfl rfl (by rfl) (by omega) (by omega) dX3_unmarks_23 ?_
  refine m_iast (D := D) (cl := vwCl) hx hb hK hP hD hS 1 0 (j := jZ) rfl rfl (by rfl) (by omega) (by omega) dX3_unmarks_24 (fun H locs hP hD hS => ?_)
  have hP : va_P D vwCl [(yZ, .inr (3, [.ref akZ, .ref avZ, .ref awZ, .ref aoZ, .ref amZ, .ref lkZ, .ref lvZ, .ref luZ, .int ipZ, .int iwZ, .int (nI (nmZ - 1)), .int ilZ, .int irZ, .int iuZ, .int iaZ, .int icZ])), (amZ, .inl (I, 200, .inl (upd fmZ jZ (fmZ (nmZ - 1)))))] H := hP
  have hD : va_D A [(yZ, .inr (3, [.ref akZ, .ref avZ, .ref awZ, .ref aoZ, .ref amZ, .ref lkZ, .ref lvZ, .ref luZ, .int ipZ, .int iwZ, .int (nI (nmZ - 1)), .int ilZ, .int irZ, .int iuZ, .int iaZ, .int icZ])), (amZ, .inl (I, 200, .inl (upd fmZ jZ (fmZ (nmZ - 1)))))] := hD
  refine m_vret () hx hb hr hlocks hP hD hS dX3_unmarks_25 (by first | exact Nat.le_of_ble_eq_true rfl | omega) (by first | exact Nat.le_of_ble_eq_true rfl | omega) ?_
  trivial

set_option maxHeartbeats 4000000 in
set_option maxRecDepth 100000 in
theorem c_X3_mark (l : Launch) (D : va_G) (I J : ClassId) (sz : Nat) (yZ : Nat) (akZ : Nat) (avZ : Nat) (awZ : Nat) (aoZ : Nat) (amZ : Nat) (lkZ : Nat) (lvZ : Nat) (luZ : Nat) (ipZ : Int32) (iwZ : Int32) (nmZ : Nat) (ilZ : Int32) (irZ : Int32) (iuZ : Int32) (iaZ : Int32) (icZ : Int32) (fmZ : Nat → Int32) (kZ : Int32) (hnew : rL fmZ kZ nmZ = none → nmZ < 200) (hnm : nmZ ≤ 200) : mCi l yX3_mark wsX3_mark 3 66 0 0 D I J [.ref yZ, .int kZ] [(yZ, .inr (3, [.ref akZ, .ref avZ, .ref awZ, .ref aoZ, .ref amZ, .ref lkZ, .ref lvZ, .ref luZ, .int ipZ, .int iwZ, .int (nI nmZ), .int ilZ, .int irZ, .int iuZ, .int iaZ, .int icZ])), (amZ, .inl (I, 200, .inl fmZ))] sz (fun (x : Int32) (u : Unit) => x = (bI (!(rL fmZ kZ nmZ).isSome))) (fun (u : Unit) => [(yZ, .inr (3, [.ref akZ, .ref avZ, .ref awZ, .ref aoZ, .ref amZ, .ref lkZ, .ref lvZ, .ref luZ, .int ipZ, .int iwZ, .int (nI (insN nmZ (rL fmZ kZ nmZ))), .int ilZ, .int irZ, .int iuZ, .int iaZ, .int 0])), (amZ, .inl (I, 200, .inl (insF fmZ nmZ kZ (rL fmZ kZ nmZ))))]) := by
  refine m_ofi (cc := cX3_mark) (maxL := 3) (ret := (some .boolean)) (by decide) rfl (Nat.le_of_ble_eq_true rfl) ?_
  intro p e s m args below meth c A ls hx hb hr hlocks hml hts hown hin hK hP hD hA hS hl
  have hl : lv_has ls 3 [(0, .ref yZ), (1, .int kZ)] := hl
  have hP : va_P D vwCl [(yZ, .inr (3, [.ref akZ, .ref avZ, .ref awZ, .ref aoZ, .ref amZ, .ref lkZ, .ref lvZ, .ref luZ, .int ipZ, .int iwZ, .int (nI nmZ), .int ilZ, .int irZ, .int iuZ, .int iaZ, .int icZ])), (amZ, .inl (I, 200, .inl fmZ))] s.heap := hP
  have hD : va_D A [(yZ, .inr (3, [.ref akZ, .ref avZ, .ref awZ, .ref aoZ, .ref amZ, .ref lkZ, .ref lvZ, .ref luZ, .int ipZ, .int iwZ, .int (nI nmZ), .int ilZ, .int irZ, .int iuZ, .int iaZ, .int icZ])), (amZ, .inl (I, 200, .inl fmZ))] := hD
  refine lv_aload_n hx hb dX3_mark_0 rfl (lv_at hl 0 rfl) ?_
  refine lv_iload_n hx hb dX3_mark_1 rfl (lv_at hl 1 rfl) ?_
  refine m_Vi (As := [.int kZ]) (wr := []) (ws2 := fun _ => [(yZ, .inr (3, [.ref akZ, .ref avZ, .ref awZ, .ref aoZ, .ref amZ, .ref lkZ, .ref lvZ, .ref luZ, .int ipZ, .int iwZ, .int (nI nmZ), .int ilZ, .int irZ, .int iuZ, .int iaZ, .int icZ])), (amZ, .inl (I, 200, .inl fmZ))]) ⟨hx, hb, hml, hown, hts⟩ hA hK hP hD hS hl.1 (c_X3_markAt l D I J s.heap.size yZ akZ avZ awZ aoZ amZ lkZ lvZ luZ ipZ iwZ nmZ ilZ irZ iuZ iaZ icZ fmZ kZ (by omega)) (cwV 1 hts gX3_mark_X3_markAt rfl rfl rfl (by decide +kernel) ⟨Nat.le_of_ble_eq_true rfl, Nat.le_of_ble_eq_true rfl⟩) [0, 1] [] [0, 1] 0 3 rfl rfl rfl rfl rfl (by decide) (by decide) (by decide) (by decide) (fun _ => rfl) rfl rfl (Nat.le_of_ble_eq_true rfl) dX3_mark_2 ⟨(by exact Nat.le_of_ble_eq_true rfl), (by exact Nat.le_of_ble_eq_true rfl)⟩ (fun r_2 u_2 H locs hw_2 hP hD hS => ?_)
  try dsimp only at hw_2
  have hP : va_P D vwCl [(yZ, .inr (3, [.ref akZ, .ref avZ, .ref awZ, .ref aoZ, .ref amZ, .ref lkZ, .ref lvZ, .ref luZ, .int ipZ, .int iwZ, .int (nI nmZ), .int ilZ, .int irZ, .int iuZ, .int iaZ, .int icZ])), (amZ, .inl (I, 200, .inl fmZ))] H := hP
  have hD : va_D A [(yZ, .inr (3, [.ref akZ, .ref avZ, .ref awZ, .ref aoZ, .ref amZ, .ref lkZ, .ref lvZ, .ref luZ, .int ipZ, .int iwZ, .int (nI nmZ), .int ilZ, .int irZ, .int iuZ, .int iaZ, .int icZ])), (amZ, .inl (I, 200, .inl fmZ))] := hD
  subst hw_2
  refine lv_istore_n (lv' := [(2, .int (iO (rL fmZ kZ nmZ))), (0, .ref yZ), (1, .int kZ)]) hx hb dX3_mark_5 rfl hl (by decide) rfl (fun ls hl => ?_)
  refine lv_aload_n hx hb dX3_mark_6 rfl (lv_at hl 1 rfl) ?_
  refine lv_iload_n hx hb dX3_mark_7 rfl (lv_at hl 0 rfl) ?_
  refine lv_if_ge (tgt := 25) hx hb dX3_mark_8 (by decide) (fun c_8 => ?_) (fun c_8 => ?_)
  · --8T
    refine lv_iconst (v := 0) hx hb dX3_mark_25 (by decide) ?_
    refine m_Vi (As := [.int 0]) (wr := [(amZ, .inl (I, 200, .inl fmZ))]) (ws2 := fun _ => [(yZ, .inr (3, [.ref akZ, .ref avZ, .ref awZ, .ref aoZ, .ref amZ, .ref lkZ, .ref lvZ, .ref luZ, .int ipZ, .int iwZ, .int (nI nmZ), .int ilZ, .int irZ, .int iuZ, .int iaZ, .int 0])), (amZ, .inl (I, 200, .inl fmZ))]) ⟨hx, hb, hml, hown, hts⟩ hA hK hP hD hS hl.1 (c_X3_fails l D I J H.size yZ akZ avZ awZ aoZ amZ lkZ lvZ luZ ipZ iwZ (nI nmZ) ilZ irZ iuZ iaZ icZ 0 ) (cwV 1 hts gX3_mark_X3_fails rfl rfl rfl (by decide +kernel) ⟨Nat.le_of_ble_eq_true rfl, Nat.le_of_ble_eq_true rfl⟩) [0] [1] [1, 0] 0 3 rfl rfl rfl rfl rfl (by decide) (by decide) (by decide) (by decide) (fun _ => rfl) rfl rfl (Nat.le_of_ble_eq_true rfl) dX3_mark_26 ⟨(by exact Nat.le_of_ble_eq_true rfl), (by exact Nat.le_of_ble_eq_true rfl)⟩ (fun r_26 u_26 H locs hw_26 hP hD hS => ?_)
    try dsimp only at hw_26
    have hP : va_P D vwCl [(yZ, .inr (3, [.ref akZ, .ref avZ, .ref awZ, .ref aoZ, .ref amZ, .ref lkZ, .ref lvZ, .ref luZ, .int ipZ, .int iwZ, .int (nI nmZ), .int ilZ, .int irZ, .int iuZ, .int iaZ, .int 0])), (amZ, .inl (I, 200, .inl fmZ))] H := hP
    have hD : va_D A [(yZ, .inr (3, [.ref akZ, .ref avZ, .ref awZ, .ref aoZ, .ref amZ, .ref lkZ, .ref lvZ, .ref luZ, .int ipZ, .int iwZ, .int (nI nmZ), .int ilZ, .int irZ, .int iuZ, .int iaZ, .int 0])), (amZ, .inl (I, 200, .inl fmZ))] := hD
    subst hw_26
    refine lv_if_eq (tgt := 34) hx hb dX3_mark_29 (by decide) (fun c_29 => ?_) (fun c_29 => ?_)
    · --8T29T
      refine lv_aload_n hx hb dX3_mark_34 rfl (lv_at hl 1 rfl) ?_
      refine lv_iload_n hx hb dX3_mark_35 rfl (lv_at hl 2 rfl) ?_
      refine m_Vv (As := [.int kZ]) (wr := []) (ws2 := fun _ => [(yZ, .inr (3, [.ref akZ, .ref avZ, .ref awZ, .ref aoZ, .ref amZ, .ref lkZ, .ref lvZ, .ref luZ, .int ipZ, .int iwZ, .int (nI (insN nmZ (rL fmZ kZ nmZ))), .int ilZ, .int irZ, .int iuZ, .int iaZ, .int 0])), (amZ, .inl (I, 200, .inl (insF fmZ nmZ kZ (rL fmZ kZ nmZ))))]) ⟨hx, hb, hml, hown, hts⟩ hA hK hP hD hS hl.1 (c_X3_marks l D I J H.size yZ akZ avZ awZ aoZ amZ lkZ lvZ luZ ipZ iwZ nmZ ilZ irZ iuZ iaZ 0 fmZ kZ (by assumption) (by omega)) (cwV 1 hts gX3_mark_X3_marks rfl rfl rfl (by decide +kernel) ⟨Nat.le_of_ble_eq_true rfl, Nat.le_of_ble_eq_true rfl⟩) [0, 1] [] [0, 1] 0 3 rfl rfl rfl rfl rfl (by decide) (by decide) (by decide) (by decide) (fun _ => rfl) rfl rfl (Nat.le_of_ble_eq_true rfl) dX3_mark_36 ⟨(by exact Nat.le_of_ble_eq_true rfl), (by exact Nat.le_of_ble_eq_true rfl)⟩ (fun u_36 H locs hw_36 hP hD hS => ?_)
      clear hw_36
      have hP : va_P D vwCl [(yZ, .inr (3, [.ref akZ, .ref avZ, .ref awZ, .ref aoZ, .ref amZ, .ref lkZ, .ref lvZ, .ref luZ, .int ipZ, .int iwZ, .int (nI (insN nmZ (rL fmZ kZ nmZ))), .int ilZ, .int irZ, .int iuZ, .int iaZ, .int 0])), (amZ, .inl (I, 200, .inl (insF fmZ nmZ kZ (rL fmZ kZ nmZ))))] H := hP
      have hD : va_D A [(yZ, .inr (3, [.ref akZ, .ref avZ, .ref awZ, .ref aoZ, .ref amZ, .ref lkZ, .ref lvZ, .ref luZ, .int ipZ, .int iwZ, .int (nI (insN nmZ (rL fmZ kZ nmZ))), .int ilZ, .int irZ, .int iuZ, .int iaZ, .int 0])), (amZ, .inl (I, 200, .inl (insF fmZ nmZ kZ (rL fmZ kZ nmZ))))] := hD
      refine lv_iload_n hx hb dX3_mark_39 rfl (lv_at hl 0 rfl) ?_
      refine lv_if_ge (tgt := 47) hx hb dX3_mark_40 (by decide) (fun c_40 => ?_) (fun c_40 => ?_)
      · --8T29T40T
        refine lv_iconst (v := 0) hx hb dX3_mark_47 (by decide) ?_
        refine m_zret () hx hb hr hlocks hP hD hS dX3_mark_48 (by first | exact Nat.le_of_ble_eq_true rfl | omega) (by first | exact Nat.le_of_ble_eq_true rfl | omega) (by rfl) ?_
        obtain ⟨jZ, ho⟩ := iO_ges c_8
        rw [ho]; rfl
      · --8T29T40F
        exact absurd c_8 c_40
    · --8T29F
      exact absurd (by decide) c_29
  · --8F
    refine lv_aload_n hx hb dX3_mark_11 rfl (lv_at hl 1 rfl) ?_
    refine va_get (D := D) (ci := 3) (v := .int (nI nmZ)) (C := RX3) (T := TX3) (N := 16) hx hb hts (fun _ h => List.mem_cons_of_mem _ (List.mem_append_right _ h)) hown hK hP 0 rfl rfl 10 (by decide) (hts (.fieldLink RX3 94 "MapsByUseModel" "markMany" "I") (List.mem_of_getElem? (i := 1) (by decide +kernel))) (fun _ h9 => h9) rfl dX3_mark_12 ?_
    refine lv_sipush (v := 200) hx hb dX3_mark_15 (by decide) ?_
    refine lv_icmp_ne (tgt := 25) hx hb dX3_mark_18 (by decide) (fun c_18 => ?_) (fun c_18 => ?_)
    · --8F18T
      refine lv_iconst (v := 0) hx hb dX3_mark_25 (by decide) ?_
      refine m_Vi (As := [.int 0]) (wr := [(amZ, .inl (I, 200, .inl fmZ))]) (ws2 := fun _ => [(yZ, .inr (3, [.ref akZ, .ref avZ, .ref awZ, .ref aoZ, .ref amZ, .ref lkZ, .ref lvZ, .ref luZ, .int ipZ, .int iwZ, .int (nI nmZ), .int ilZ, .int irZ, .int iuZ, .int iaZ, .int 0])), (amZ, .inl (I, 200, .inl fmZ))]) ⟨hx, hb, hml, hown, hts⟩ hA hK hP hD hS hl.1 (c_X3_fails l D I J H.size yZ akZ avZ awZ aoZ amZ lkZ lvZ luZ ipZ iwZ (nI nmZ) ilZ irZ iuZ iaZ icZ 0 ) (cwV 1 hts gX3_mark_X3_fails rfl rfl rfl (by decide +kernel) ⟨Nat.le_of_ble_eq_true rfl, Nat.le_of_ble_eq_true rfl⟩) [0] [1] [1, 0] 0 3 rfl rfl rfl rfl rfl (by decide) (by decide) (by decide) (by decide) (fun _ => rfl) rfl rfl (Nat.le_of_ble_eq_true rfl) dX3_mark_26 ⟨(by exact Nat.le_of_ble_eq_true rfl), (by exact Nat.le_of_ble_eq_true rfl)⟩ (fun r_26 u_26 H locs hw_26 hP hD hS => ?_)
      try dsimp only at hw_26
      have hP : va_P D vwCl [(yZ, .inr (3, [.ref akZ, .ref avZ, .ref awZ, .ref aoZ, .ref amZ, .ref lkZ, .ref lvZ, .ref luZ, .int ipZ, .int iwZ, .int (nI nmZ), .int ilZ, .int irZ, .int iuZ, .int iaZ, .int 0])), (amZ, .inl (I, 200, .inl fmZ))] H := hP
      have hD : va_D A [(yZ, .inr (3, [.ref akZ, .ref avZ, .ref awZ, .ref aoZ, .ref amZ, .ref lkZ, .ref lvZ, .ref luZ, .int ipZ, .int iwZ, .int (nI nmZ), .int ilZ, .int irZ, .int iuZ, .int iaZ, .int 0])), (amZ, .inl (I, 200, .inl fmZ))] := hD
      subst hw_26
      refine lv_if_eq (tgt := 34) hx hb dX3_mark_29 (by decide) (fun c_29 => ?_) (fun c_29 => ?_)
      · --8F18T29T
        refine lv_aload_n hx hb dX3_mark_34 rfl (lv_at hl 1 rfl) ?_
        refine lv_iload_n hx hb dX3_mark_35 rfl (lv_at hl 2 rfl) ?_
        refine m_Vv (As := [.int kZ]) (wr := []) (ws2 := fun _ => [(yZ, .inr (3, [.ref akZ, .ref avZ, .ref awZ, .ref aoZ, .ref amZ, .ref lkZ, .ref lvZ, .ref luZ, .int ipZ, .int iwZ, .int (nI (insN nmZ (rL fmZ kZ nmZ))), .int ilZ, .int irZ, .int iuZ, .int iaZ, .int 0])), (amZ, .inl (I, 200, .inl (insF fmZ nmZ kZ (rL fmZ kZ nmZ))))]) ⟨hx, hb, hml, hown, hts⟩ hA hK hP hD hS hl.1 (c_X3_marks l D I J H.size yZ akZ avZ awZ aoZ amZ lkZ lvZ luZ ipZ iwZ nmZ ilZ irZ iuZ iaZ 0 fmZ kZ (by assumption) (by omega)) (cwV 1 hts gX3_mark_X3_marks rfl rfl rfl (by decide +kernel) ⟨Nat.le_of_ble_eq_true rfl, Nat.le_of_ble_eq_true rfl⟩) [0, 1] [] [0, 1] 0 3 rfl rfl rfl rfl rfl (by decide) (by decide) (by decide) (by decide) (fun _ => rfl) rfl rfl (Nat.le_of_ble_eq_true rfl) dX3_mark_36 ⟨(by exact Nat.le_of_ble_eq_true rfl), (by exact Nat.le_of_ble_eq_true rfl)⟩ (fun u_36 H locs hw_36 hP hD hS => ?_)
        clear hw_36
        have hP : va_P D vwCl [(yZ, .inr (3, [.ref akZ, .ref avZ, .ref awZ, .ref aoZ, .ref amZ, .ref lkZ, .ref lvZ, .ref luZ, .int ipZ, .int iwZ, .int (nI (insN nmZ (rL fmZ kZ nmZ))), .int ilZ, .int irZ, .int iuZ, .int iaZ, .int 0])), (amZ, .inl (I, 200, .inl (insF fmZ nmZ kZ (rL fmZ kZ nmZ))))] H := hP
        have hD : va_D A [(yZ, .inr (3, [.ref akZ, .ref avZ, .ref awZ, .ref aoZ, .ref amZ, .ref lkZ, .ref lvZ, .ref luZ, .int ipZ, .int iwZ, .int (nI (insN nmZ (rL fmZ kZ nmZ))), .int ilZ, .int irZ, .int iuZ, .int iaZ, .int 0])), (amZ, .inl (I, 200, .inl (insF fmZ nmZ kZ (rL fmZ kZ nmZ))))] := hD
        refine lv_iload_n hx hb dX3_mark_39 rfl (lv_at hl 0 rfl) ?_
        refine lv_if_ge (tgt := 47) hx hb dX3_mark_40 (by decide) (fun c_40 => ?_) (fun c_40 => ?_)
        · --8F18T29T40T
          exact absurd c_40 c_8
        · --8F18T29T40F
          refine lv_iconst (v := 1) hx hb dX3_mark_43 (by decide) ?_
          refine lv_goto (tgt := 48) hx hb dX3_mark_44 (by decide) ?_
          refine m_zret () hx hb hr hlocks hP hD hS dX3_mark_48 (by first | exact Nat.le_of_ble_eq_true rfl | omega) (by first | exact Nat.le_of_ble_eq_true rfl | omega) (by rfl) ?_
          have ho : rL fmZ kZ nmZ = none := iO_ge c_8 (rL_lt (by omega))
          rw [ho]; rfl
      · --8F18T29F
        exact absurd (by decide) c_29
    · --8F18F
      exact absurd c_18 (fun q9 => by have hh := (nI_eq (b := 200) (by omega) (by omega)).mp q9; have hl9 := hnew (iO_ge c_8 (rL_lt (by omega))); omega)

set_option maxHeartbeats 4000000 in
set_option maxRecDepth 100000 in
theorem c_X3_mark_F (l : Launch) (D : va_G) (I J : ClassId) (sz : Nat) (yZ : Nat) (akZ : Nat) (avZ : Nat) (awZ : Nat) (aoZ : Nat) (amZ : Nat) (lkZ : Nat) (lvZ : Nat) (luZ : Nat) (ipZ : Int32) (iwZ : Int32) (nmZ : Nat) (ilZ : Int32) (irZ : Int32) (iuZ : Int32) (iaZ : Int32) (icZ : Int32) (fmZ : Nat → Int32) (kZ : Int32) (hnone : rL fmZ kZ nmZ = none) (hfull : nmZ = 200) : mCi l yX3_mark wsX3_mark 2 45 0 0 D I J [.ref yZ, .int kZ] [(yZ, .inr (3, [.ref akZ, .ref avZ, .ref awZ, .ref aoZ, .ref amZ, .ref lkZ, .ref lvZ, .ref luZ, .int ipZ, .int iwZ, .int (nI nmZ), .int ilZ, .int irZ, .int iuZ, .int iaZ, .int icZ])), (amZ, .inl (I, 200, .inl fmZ))] sz (fun (x : Int32) (u : Unit) => x = 0) (fun (u : Unit) => [(yZ, .inr (3, [.ref akZ, .ref avZ, .ref awZ, .ref aoZ, .ref amZ, .ref lkZ, .ref lvZ, .ref luZ, .int ipZ, .int iwZ, .int (nI nmZ), .int ilZ, .int irZ, .int iuZ, .int iaZ, .int 1])), (amZ, .inl (I, 200, .inl fmZ))]) := by
  refine m_ofi (cc := cX3_mark) (maxL := 3) (ret := (some .boolean)) (by decide) rfl (Nat.le_of_ble_eq_true rfl) ?_
  intro p e s m args below meth c A ls hx hb hr hlocks hml hts hown hin hK hP hD hA hS hl
  have hl : lv_has ls 3 [(0, .ref yZ), (1, .int kZ)] := hl
  have hP : va_P D vwCl [(yZ, .inr (3, [.ref akZ, .ref avZ, .ref awZ, .ref aoZ, .ref amZ, .ref lkZ, .ref lvZ, .ref luZ, .int ipZ, .int iwZ, .int (nI nmZ), .int ilZ, .int irZ, .int iuZ, .int iaZ, .int icZ])), (amZ, .inl (I, 200, .inl fmZ))] s.heap := hP
  have hD : va_D A [(yZ, .inr (3, [.ref akZ, .ref avZ, .ref awZ, .ref aoZ, .ref amZ, .ref lkZ, .ref lvZ, .ref luZ, .int ipZ, .int iwZ, .int (nI nmZ), .int ilZ, .int irZ, .int iuZ, .int iaZ, .int icZ])), (amZ, .inl (I, 200, .inl fmZ))] := hD
  refine lv_aload_n hx hb dX3_mark_0 rfl (lv_at hl 0 rfl) ?_
  refine lv_iload_n hx hb dX3_mark_1 rfl (lv_at hl 1 rfl) ?_
  refine m_Vi (As := [.int kZ]) (wr := []) (ws2 := fun _ => [(yZ, .inr (3, [.ref akZ, .ref avZ, .ref awZ, .ref aoZ, .ref amZ, .ref lkZ, .ref lvZ, .ref luZ, .int ipZ, .int iwZ, .int (nI nmZ), .int ilZ, .int irZ, .int iuZ, .int iaZ, .int icZ])), (amZ, .inl (I, 200, .inl fmZ))]) ⟨hx, hb, hml, hown, hts⟩ hA hK hP hD hS hl.1 (c_X3_markAt l D I J s.heap.size yZ akZ avZ awZ aoZ amZ lkZ lvZ luZ ipZ iwZ nmZ ilZ irZ iuZ iaZ icZ fmZ kZ (by omega)) (cwV 1 hts gX3_mark_X3_markAt rfl rfl rfl (by decide +kernel) ⟨Nat.le_of_ble_eq_true rfl, Nat.le_of_ble_eq_true rfl⟩) [0, 1] [] [0, 1] 0 3 rfl rfl rfl rfl rfl (by decide) (by decide) (by decide) (by decide) (fun _ => rfl) rfl rfl (Nat.le_of_ble_eq_true rfl) dX3_mark_2 ⟨(by exact Nat.le_of_ble_eq_true rfl), (by exact Nat.le_of_ble_eq_true rfl)⟩ (fun r_2 u_2 H locs hw_2 hP hD hS => ?_)
  try dsimp only at hw_2
  have hP : va_P D vwCl [(yZ, .inr (3, [.ref akZ, .ref avZ, .ref awZ, .ref aoZ, .ref amZ, .ref lkZ, .ref lvZ, .ref luZ, .int ipZ, .int iwZ, .int (nI nmZ), .int ilZ, .int irZ, .int iuZ, .int iaZ, .int icZ])), (amZ, .inl (I, 200, .inl fmZ))] H := hP
  have hD : va_D A [(yZ, .inr (3, [.ref akZ, .ref avZ, .ref awZ, .ref aoZ, .ref amZ, .ref lkZ, .ref lvZ, .ref luZ, .int ipZ, .int iwZ, .int (nI nmZ), .int ilZ, .int irZ, .int iuZ, .int iaZ, .int icZ])), (amZ, .inl (I, 200, .inl fmZ))] := hD
  subst hw_2
  refine lv_istore_n (lv' := [(2, .int (iO (rL fmZ kZ nmZ))), (0, .ref yZ), (1, .int kZ)]) hx hb dX3_mark_5 rfl hl (by decide) rfl (fun ls hl => ?_)
  refine lv_aload_n hx hb dX3_mark_6 rfl (lv_at hl 1 rfl) ?_
  refine lv_iload_n hx hb dX3_mark_7 rfl (lv_at hl 0 rfl) ?_
  refine lv_if_ge (tgt := 25) hx hb dX3_mark_8 (by decide) (fun c_8 => ?_) (fun c_8 => ?_)
  · --8T
    exact absurd c_8 (by rw [hnone]; decide)
  · --8F
    refine lv_aload_n hx hb dX3_mark_11 rfl (lv_at hl 1 rfl) ?_
    refine va_get (D := D) (ci := 3) (v := .int (nI nmZ)) (C := RX3) (T := TX3) (N := 16) hx hb hts (fun _ h => List.mem_cons_of_mem _ (List.mem_append_right _ h)) hown hK hP 0 rfl rfl 10 (by decide) (hts (.fieldLink RX3 94 "MapsByUseModel" "markMany" "I") (List.mem_of_getElem? (i := 1) (by decide +kernel))) (fun _ h9 => h9) rfl dX3_mark_12 ?_
    refine lv_sipush (v := 200) hx hb dX3_mark_15 (by decide) ?_
    refine lv_icmp_ne (tgt := 25) hx hb dX3_mark_18 (by decide) (fun c_18 => ?_) (fun c_18 => ?_)
    · --8F18T
      exact absurd (by rw [hfull]; rfl) c_18
    · --8F18F
      refine lv_iconst (v := 1) hx hb dX3_mark_21 (by decide) ?_
      refine lv_goto (tgt := 26) hx hb dX3_mark_22 (by decide) ?_
      refine m_Vi (As := [.int 1]) (wr := [(amZ, .inl (I, 200, .inl fmZ))]) (ws2 := fun _ => [(yZ, .inr (3, [.ref akZ, .ref avZ, .ref awZ, .ref aoZ, .ref amZ, .ref lkZ, .ref lvZ, .ref luZ, .int ipZ, .int iwZ, .int (nI nmZ), .int ilZ, .int irZ, .int iuZ, .int iaZ, .int 1])), (amZ, .inl (I, 200, .inl fmZ))]) ⟨hx, hb, hml, hown, hts⟩ hA hK hP hD hS hl.1 (c_X3_fails l D I J H.size yZ akZ avZ awZ aoZ amZ lkZ lvZ luZ ipZ iwZ (nI nmZ) ilZ irZ iuZ iaZ icZ 1 ) (cwV 1 hts gX3_mark_X3_fails rfl rfl rfl (by decide +kernel) ⟨Nat.le_of_ble_eq_true rfl, Nat.le_of_ble_eq_true rfl⟩) [0] [1] [1, 0] 0 3 rfl rfl rfl rfl rfl (by decide) (by decide) (by decide) (by decide) (fun _ => rfl) rfl rfl (Nat.le_of_ble_eq_true rfl) dX3_mark_26 ⟨(by exact Nat.le_of_ble_eq_true rfl), (by exact Nat.le_of_ble_eq_true rfl)⟩ (fun r_26 u_26 H locs hw_26 hP hD hS => ?_)
      try dsimp only at hw_26
      have hP : va_P D vwCl [(yZ, .inr (3, [.ref akZ, .ref avZ, .ref awZ, .ref aoZ, .ref amZ, .ref lkZ, .ref lvZ, .ref luZ, .int ipZ, .int iwZ, .int (nI nmZ), .int ilZ, .int irZ, .int iuZ, .int iaZ, .int 1])), (amZ, .inl (I, 200, .inl fmZ))] H := hP
      have hD : va_D A [(yZ, .inr (3, [.ref akZ, .ref avZ, .ref awZ, .ref aoZ, .ref amZ, .ref lkZ, .ref lvZ, .ref luZ, .int ipZ, .int iwZ, .int (nI nmZ), .int ilZ, .int irZ, .int iuZ, .int iaZ, .int 1])), (amZ, .inl (I, 200, .inl fmZ))] := hD
      subst hw_26
      refine lv_if_eq (tgt := 34) hx hb dX3_mark_29 (by decide) (fun c_29 => ?_) (fun c_29 => ?_)
      · --8F18F29T
        exact absurd c_29 (by decide)
      · --8F18F29F
        refine lv_iconst (v := 0) hx hb dX3_mark_32 (by decide) ?_
        refine m_zret () hx hb hr hlocks hP hD hS dX3_mark_33 (by first | exact Nat.le_of_ble_eq_true rfl | omega) (by first | exact Nat.le_of_ble_eq_true rfl | omega) (by rfl) ?_
        rfl

set_option maxHeartbeats 4000000 in
set_option maxRecDepth 100000 in
theorem c_X3_unmark (l : Launch) (D : va_G) (I J : ClassId) (sz : Nat) (yZ : Nat) (akZ : Nat) (avZ : Nat) (awZ : Nat) (aoZ : Nat) (amZ : Nat) (lkZ : Nat) (lvZ : Nat) (luZ : Nat) (ipZ : Int32) (iwZ : Int32) (nmZ : Nat) (ilZ : Int32) (irZ : Int32) (iuZ : Int32) (iaZ : Int32) (icZ : Int32) (fmZ : Nat → Int32) (kZ : Int32) (hnm : nmZ ≤ 200) : mCi l yX3_unmark wsX3_unmark 2 45 0 0 D I J [.ref yZ, .int kZ] [(yZ, .inr (3, [.ref akZ, .ref avZ, .ref awZ, .ref aoZ, .ref amZ, .ref lkZ, .ref lvZ, .ref luZ, .int ipZ, .int iwZ, .int (nI nmZ), .int ilZ, .int irZ, .int iuZ, .int iaZ, .int icZ])), (amZ, .inl (I, 200, .inl fmZ))] sz (fun (x : Int32) (u : Unit) => x = (bI (rL fmZ kZ nmZ).isSome)) (fun (u : Unit) => [(yZ, .inr (3, [.ref akZ, .ref avZ, .ref awZ, .ref aoZ, .ref amZ, .ref lkZ, .ref lvZ, .ref luZ, .int ipZ, .int iwZ, .int (nI (delN nmZ (rL fmZ kZ nmZ))), .int ilZ, .int irZ, .int iuZ, .int iaZ, .int 0])), (amZ, .inl (I, 200, .inl (swO fmZ nmZ (rL fmZ kZ nmZ))))]) := by
  refine m_ofi (cc := cX3_unmark) (maxL := 3) (ret := (some .boolean)) (by decide) rfl (Nat.le_of_ble_eq_true rfl) ?_
  intro p e s m args below meth c A ls hx hb hr hlocks hml hts hown hin hK hP hD hA hS hl
  have hl : lv_has ls 3 [(0, .ref yZ), (1, .int kZ)] := hl
  have hP : va_P D vwCl [(yZ, .inr (3, [.ref akZ, .ref avZ, .ref awZ, .ref aoZ, .ref amZ, .ref lkZ, .ref lvZ, .ref luZ, .int ipZ, .int iwZ, .int (nI nmZ), .int ilZ, .int irZ, .int iuZ, .int iaZ, .int icZ])), (amZ, .inl (I, 200, .inl fmZ))] s.heap := hP
  have hD : va_D A [(yZ, .inr (3, [.ref akZ, .ref avZ, .ref awZ, .ref aoZ, .ref amZ, .ref lkZ, .ref lvZ, .ref luZ, .int ipZ, .int iwZ, .int (nI nmZ), .int ilZ, .int irZ, .int iuZ, .int iaZ, .int icZ])), (amZ, .inl (I, 200, .inl fmZ))] := hD
  refine lv_aload_n hx hb dX3_unmark_0 rfl (lv_at hl 0 rfl) ?_
  refine lv_iconst (v := 0) hx hb dX3_unmark_1 (by decide) ?_
  refine va_put (D := D) (ci := 3) (v := .int 0) (ty := .int) (C := RX3) (T := TX3) (N := 16) hx hb hts (fun _ h => List.mem_cons_of_mem _ (List.mem_append_right _ h)) tyX3 tyX3_ok nmX3 hown hK hP hD hS 0 rfl rfl 15 (by decide) (hts (.fieldLink RX3 38 "MapsByUseModel" "code" "I") (List.mem_of_getElem? (i := 1) (by decide +kernel))) (fun _ h9 => h9) rfl (by decide +kernel) rfl rfl (Nat.le_of_ble_eq_true rfl) dX3_unmark_2 (fun H locs hP hD hS => ?_)
  have hP : va_P D vwCl [(yZ, .inr (3, [.ref akZ, .ref avZ, .ref awZ, .ref aoZ, .ref amZ, .ref lkZ, .ref lvZ, .ref luZ, .int ipZ, .int iwZ, .int (nI nmZ), .int ilZ, .int irZ, .int iuZ, .int iaZ, .int 0])), (amZ, .inl (I, 200, .inl fmZ))] H := hP
  have hD : va_D A [(yZ, .inr (3, [.ref akZ, .ref avZ, .ref awZ, .ref aoZ, .ref amZ, .ref lkZ, .ref lvZ, .ref luZ, .int ipZ, .int iwZ, .int (nI nmZ), .int ilZ, .int irZ, .int iuZ, .int iaZ, .int 0])), (amZ, .inl (I, 200, .inl fmZ))] := hD
  refine lv_aload_n hx hb dX3_unmark_5 rfl (lv_at hl 0 rfl) ?_
  refine lv_iload_n hx hb dX3_unmark_6 rfl (lv_at hl 1 rfl) ?_
  refine m_Vi (As := [.int kZ]) (wr := []) (ws2 := fun _ => [(yZ, .inr (3, [.ref akZ, .ref avZ, .ref awZ, .ref aoZ, .ref amZ, .ref lkZ, .ref lvZ, .ref luZ, .int ipZ, .int iwZ, .int (nI nmZ), .int ilZ, .int irZ, .int iuZ, .int iaZ, .int 0])), (amZ, .inl (I, 200, .inl fmZ))]) ⟨hx, hb, hml, hown, hts⟩ hA hK hP hD hS hl.1 (c_X3_markAt l D I J H.size yZ akZ avZ awZ aoZ amZ lkZ lvZ luZ ipZ iwZ nmZ ilZ irZ iuZ iaZ 0 fmZ kZ (by omega)) (cwV 1 hts gX3_unmark_X3_markAt rfl rfl rfl (by decide +kernel) ⟨Nat.le_of_ble_eq_true rfl, Nat.le_of_ble_eq_true rfl⟩) [0, 1] [] [0, 1] 0 3 rfl rfl rfl rfl rfl (by decide) (by decide) (by decide) (by decide) (fun _ => rfl) rfl rfl (Nat.le_of_ble_eq_true rfl) dX3_unmark_7 ⟨(by exact Nat.le_of_ble_eq_true rfl), (by exact Nat.le_of_ble_eq_true rfl)⟩ (fun r_7 u_7 H locs hw_7 hP hD hS => ?_)
  try dsimp only at hw_7
  have hP : va_P D vwCl [(yZ, .inr (3, [.ref akZ, .ref avZ, .ref awZ, .ref aoZ, .ref amZ, .ref lkZ, .ref lvZ, .ref luZ, .int ipZ, .int iwZ, .int (nI nmZ), .int ilZ, .int irZ, .int iuZ, .int iaZ, .int 0])), (amZ, .inl (I, 200, .inl fmZ))] H := hP
  have hD : va_D A [(yZ, .inr (3, [.ref akZ, .ref avZ, .ref awZ, .ref aoZ, .ref amZ, .ref lkZ, .ref lvZ, .ref luZ, .int ipZ, .int iwZ, .int (nI nmZ), .int ilZ, .int irZ, .int iuZ, .int iaZ, .int 0])), (amZ, .inl (I, 200, .inl fmZ))] := hD
  subst hw_7
  refine lv_istore_n (lv' := [(2, .int (iO (rL fmZ kZ nmZ))), (0, .ref yZ), (1, .int kZ)]) hx hb dX3_unmark_10 rfl hl (by decide) rfl (fun ls hl => ?_)
  refine lv_iload_n hx hb dX3_unmark_11 rfl (lv_at hl 0 rfl) ?_
  refine lv_if_lt (tgt := 20) hx hb dX3_unmark_12 (by decide) (fun c_12 => ?_) (fun c_12 => ?_)
  · --12T
    have ho : rL fmZ kZ nmZ = none := (iO_neg (rL_lt (by omega))).mp c_12
    refine lv_iload_n hx hb dX3_unmark_20 rfl (lv_at hl 0 rfl) ?_
    refine lv_if_lt (tgt := 28) hx hb dX3_unmark_21 (by decide) (fun c_21 => ?_) (fun c_21 => ?_)
    · --12T21T
      refine lv_iconst (v := 0) hx hb dX3_unmark_28 (by decide) ?_
      have hEq : [(yZ, .inr (3, [.ref akZ, .ref avZ, .ref awZ, .ref aoZ, .ref amZ, .ref lkZ, .ref lvZ, .ref luZ, .int ipZ, .int iwZ, .int (nI nmZ), .int ilZ, .int irZ, .int iuZ, .int iaZ, .int 0])), (amZ, .inl (I, 200, .inl fmZ))] = ([(yZ, .inr (3, [.ref akZ, .ref avZ, .ref awZ, .ref aoZ, .ref amZ, .ref lkZ, .ref lvZ, .ref luZ, .int ipZ, .int iwZ, .int (nI (delN nmZ (rL fmZ kZ nmZ))), .int ilZ, .int irZ, .int iuZ, .int iaZ, .int 0])), (amZ, .inl (I, 200, .inl (swO fmZ nmZ (rL fmZ kZ nmZ))))] : va_W) := (by rw [ho]; rfl)
      rw [hEq] at hP hD
      refine m_zret () hx hb hr hlocks hP hD hS dX3_unmark_29 (by first | exact Nat.le_of_ble_eq_true rfl | omega) (by first | exact Nat.le_of_ble_eq_true rfl | omega) (by rfl) ?_
      rw [ho]; rfl
    · --12T21F
      exact absurd c_12 c_21
  · --12F
    obtain ⟨jZ, ho⟩ := iO_lts c_12
    have hj := (rL_some ho).1
    rw [ho] at hl
    refine lv_aload_n hx hb dX3_unmark_15 rfl (lv_at hl 1 rfl) ?_
    refine lv_iload_n hx hb dX3_unmark_16 rfl (lv_at hl 0 rfl) ?_
    refine m_Vv (As := [.int (iO (some jZ))]) (wr := []) (ws2 := fun _ => [(yZ, .inr (3, [.ref akZ, .ref avZ, .ref awZ, .ref aoZ, .ref amZ, .ref lkZ, .ref lvZ, .ref luZ, .int ipZ, .int iwZ, .int (nI (nmZ - 1)), .int ilZ, .int irZ, .int iuZ, .int iaZ, .int 0])), (amZ, .inl (I, 200, .inl (swF fmZ nmZ jZ)))]) ⟨hx, hb, hml, hown, hts⟩ hA hK hP hD hS hl.1 (c_X3_unmarks l D I J H.size yZ akZ avZ awZ aoZ amZ lkZ lvZ luZ ipZ iwZ nmZ ilZ irZ iuZ iaZ 0 fmZ jZ (by assumption) (by omega)) (cwV 1 hts gX3_unmark_X3_unmarks rfl rfl rfl (by decide +kernel) ⟨Nat.le_of_ble_eq_true rfl, Nat.le_of_ble_eq_true rfl⟩) [0, 1] [] [0, 1] 0 3 rfl rfl rfl rfl rfl (by decide) (by decide) (by decide) (by decide) (fun _ => rfl) rfl rfl (Nat.le_of_ble_eq_true rfl) dX3_unmark_17 ⟨(by exact Nat.le_of_ble_eq_true rfl), (by exact Nat.le_of_ble_eq_true rfl)⟩ (fun u_17 H locs hw_17 hP hD hS => ?_)
    clear hw_17
    have hP : va_P D vwCl [(yZ, .inr (3, [.ref akZ, .ref avZ, .ref awZ, .ref aoZ, .ref amZ, .ref lkZ, .ref lvZ, .ref luZ, .int ipZ, .int iwZ, .int (nI (nmZ - 1)), .int ilZ, .int irZ, .int iuZ, .int iaZ, .int 0])), (amZ, .inl (I, 200, .inl (swF fmZ nmZ jZ)))] H := hP
    have hD : va_D A [(yZ, .inr (3, [.ref akZ, .ref avZ, .ref awZ, .ref aoZ, .ref amZ, .ref lkZ, .ref lvZ, .ref luZ, .int ipZ, .int iwZ, .int (nI (nmZ - 1)), .int ilZ, .int irZ, .int iuZ, .int iaZ, .int 0])), (amZ, .inl (I, 200, .inl (swF fmZ nmZ jZ)))] := hD
    refine lv_iload_n hx hb dX3_unmark_20 rfl (lv_at hl 0 rfl) ?_
    refine lv_if_lt (tgt := 28) hx hb dX3_unmark_21 (by decide) (fun c_21 => ?_) (fun c_21 => ?_)
    · --12F21T
      exact absurd c_21 (nI_pos (by omega))
    · --12F21F
      refine lv_iconst (v := 1) hx hb dX3_unmark_24 (by decide) ?_
      refine lv_goto (tgt := 29) hx hb dX3_unmark_25 (by decide) ?_
      have hEq : [(yZ, .inr (3, [.ref akZ, .ref avZ, .ref awZ, .ref aoZ, .ref amZ, .ref lkZ, .ref lvZ, .ref luZ, .int ipZ, .int iwZ, .int (nI (nmZ - 1)), .int ilZ, .int irZ, .int iuZ, .int iaZ, .int 0])), (amZ, .inl (I, 200, .inl (swF fmZ nmZ jZ)))] = ([(yZ, .inr (3, [.ref akZ, .ref avZ, .ref awZ, .ref aoZ, .ref amZ, .ref lkZ, .ref lvZ, .ref luZ, .int ipZ, .int iwZ, .int (nI (delN nmZ (rL fmZ kZ nmZ))), .int ilZ, .int irZ, .int iuZ, .int iaZ, .int 0])), (amZ, .inl (I, 200, .inl (swO fmZ nmZ (rL fmZ kZ nmZ))))] : va_W) := (by rw [ho]; rfl)
      rw [hEq] at hP hD
      refine m_zret () hx hb hr hlocks hP hD hS dX3_unmark_29 (by first | exact Nat.le_of_ble_eq_true rfl | omega) (by first | exact Nat.le_of_ble_eq_true rfl | omega) (by rfl) ?_
      rw [ho]; rfl

set_option maxHeartbeats 4000000 in
set_option maxRecDepth 100000 in
theorem c_X3_isMarked (l : Launch) (D : va_G) (I J : ClassId) (sz : Nat) (yZ : Nat) (akZ : Nat) (avZ : Nat) (awZ : Nat) (aoZ : Nat) (amZ : Nat) (lkZ : Nat) (lvZ : Nat) (luZ : Nat) (ipZ : Int32) (iwZ : Int32) (nmZ : Nat) (ilZ : Int32) (irZ : Int32) (iuZ : Int32) (iaZ : Int32) (icZ : Int32) (fmZ : Nat → Int32) (kZ : Int32) (hnm : nmZ ≤ 200) : mCi l yX3_isMarked wsX3_isMarked 2 45 0 0 D I J [.ref yZ, .int kZ] [(yZ, .inr (3, [.ref akZ, .ref avZ, .ref awZ, .ref aoZ, .ref amZ, .ref lkZ, .ref lvZ, .ref luZ, .int ipZ, .int iwZ, .int (nI nmZ), .int ilZ, .int irZ, .int iuZ, .int iaZ, .int icZ])), (amZ, .inl (I, 200, .inl fmZ))] sz (fun (x : Int32) (u : Unit) => x = (bI (rL fmZ kZ nmZ).isSome)) (fun (u : Unit) => [(yZ, .inr (3, [.ref akZ, .ref avZ, .ref awZ, .ref aoZ, .ref amZ, .ref lkZ, .ref lvZ, .ref luZ, .int ipZ, .int iwZ, .int (nI nmZ), .int ilZ, .int irZ, .int iuZ, .int iaZ, .int 0])), (amZ, .inl (I, 200, .inl fmZ))]) := by
  refine m_ofi (cc := cX3_isMarked) (maxL := 2) (ret := (some .boolean)) (by decide) rfl (Nat.le_of_ble_eq_true rfl) ?_
  intro p e s m args below meth c A ls hx hb hr hlocks hml hts hown hin hK hP hD hA hS hl
  have hl : lv_has ls 2 [(0, .ref yZ), (1, .int kZ)] := hl
  have hP : va_P D vwCl [(yZ, .inr (3, [.ref akZ, .ref avZ, .ref awZ, .ref aoZ, .ref amZ, .ref lkZ, .ref lvZ, .ref luZ, .int ipZ, .int iwZ, .int (nI nmZ), .int ilZ, .int irZ, .int iuZ, .int iaZ, .int icZ])), (amZ, .inl (I, 200, .inl fmZ))] s.heap := hP
  have hD : va_D A [(yZ, .inr (3, [.ref akZ, .ref avZ, .ref awZ, .ref aoZ, .ref amZ, .ref lkZ, .ref lvZ, .ref luZ, .int ipZ, .int iwZ, .int (nI nmZ), .int ilZ, .int irZ, .int iuZ, .int iaZ, .int icZ])), (amZ, .inl (I, 200, .inl fmZ))] := hD
  refine lv_aload_n hx hb dX3_isMarked_0 rfl (lv_at hl 0 rfl) ?_
  refine lv_iconst (v := 0) hx hb dX3_isMarked_1 (by decide) ?_
  refine va_put (D := D) (ci := 3) (v := .int 0) (ty := .int) (C := RX3) (T := TX3) (N := 16) hx hb hts (fun _ h => List.mem_cons_of_mem _ (List.mem_append_right _ h)) tyX3 tyX3_ok nmX3 hown hK hP hD hS 0 rfl rfl 15 (by decide) (hts (.fieldLink RX3 38 "MapsByUseModel" "code" "I") (List.mem_of_getElem? (i := 1) (by decide +kernel))) (fun _ h9 => h9) rfl (by decide +kernel) rfl rfl (Nat.le_of_ble_eq_true rfl) dX3_isMarked_2 (fun H locs hP hD hS => ?_)
  have hP : va_P D vwCl [(yZ, .inr (3, [.ref akZ, .ref avZ, .ref awZ, .ref aoZ, .ref amZ, .ref lkZ, .ref lvZ, .ref luZ, .int ipZ, .int iwZ, .int (nI nmZ), .int ilZ, .int irZ, .int iuZ, .int iaZ, .int 0])), (amZ, .inl (I, 200, .inl fmZ))] H := hP
  have hD : va_D A [(yZ, .inr (3, [.ref akZ, .ref avZ, .ref awZ, .ref aoZ, .ref amZ, .ref lkZ, .ref lvZ, .ref luZ, .int ipZ, .int iwZ, .int (nI nmZ), .int ilZ, .int irZ, .int iuZ, .int iaZ, .int 0])), (amZ, .inl (I, 200, .inl fmZ))] := hD
  refine lv_aload_n hx hb dX3_isMarked_5 rfl (lv_at hl 0 rfl) ?_
  refine lv_iload_n hx hb dX3_isMarked_6 rfl (lv_at hl 1 rfl) ?_
  refine m_Vi (As := [.int kZ]) (wr := []) (ws2 := fun _ => [(yZ, .inr (3, [.ref akZ, .ref avZ, .ref awZ, .ref aoZ, .ref amZ, .ref lkZ, .ref lvZ, .ref luZ, .int ipZ, .int iwZ, .int (nI nmZ), .int ilZ, .int irZ, .int iuZ, .int iaZ, .int 0])), (amZ, .inl (I, 200, .inl fmZ))]) ⟨hx, hb, hml, hown, hts⟩ hA hK hP hD hS hl.1 (c_X3_markAt l D I J H.size yZ akZ avZ awZ aoZ amZ lkZ lvZ luZ ipZ iwZ nmZ ilZ irZ iuZ iaZ 0 fmZ kZ (by omega)) (cwV 1 hts gX3_isMarked_X3_markAt rfl rfl rfl (by decide +kernel) ⟨Nat.le_of_ble_eq_true rfl, Nat.le_of_ble_eq_true rfl⟩) [0, 1] [] [0, 1] 0 3 rfl rfl rfl rfl rfl (by decide) (by decide) (by decide) (by decide) (fun _ => rfl) rfl rfl (Nat.le_of_ble_eq_true rfl) dX3_isMarked_7 ⟨(by exact Nat.le_of_ble_eq_true rfl), (by exact Nat.le_of_ble_eq_true rfl)⟩ (fun r_7 u_7 H locs hw_7 hP hD hS => ?_)
  try dsimp only at hw_7
  have hP : va_P D vwCl [(yZ, .inr (3, [.ref akZ, .ref avZ, .ref awZ, .ref aoZ, .ref amZ, .ref lkZ, .ref lvZ, .ref luZ, .int ipZ, .int iwZ, .int (nI nmZ), .int ilZ, .int irZ, .int iuZ, .int iaZ, .int 0])), (amZ, .inl (I, 200, .inl fmZ))] H := hP
  have hD : va_D A [(yZ, .inr (3, [.ref akZ, .ref avZ, .ref awZ, .ref aoZ, .ref amZ, .ref lkZ, .ref lvZ, .ref luZ, .int ipZ, .int iwZ, .int (nI nmZ), .int ilZ, .int irZ, .int iuZ, .int iaZ, .int 0])), (amZ, .inl (I, 200, .inl fmZ))] := hD
  subst hw_7
  refine lv_if_lt (tgt := 17) hx hb dX3_isMarked_10 (by decide) (fun c_10 => ?_) (fun c_10 => ?_)
  · --10T
    refine lv_iconst (v := 0) hx hb dX3_isMarked_17 (by decide) ?_
    refine m_zret () hx hb hr hlocks hP hD hS dX3_isMarked_18 (by first | exact Nat.le_of_ble_eq_true rfl | omega) (by first | exact Nat.le_of_ble_eq_true rfl | omega) (by rfl) ?_
    have ho : rL fmZ kZ nmZ = none := (iO_neg (rL_lt (by omega))).mp c_10
    rw [ho]; rfl
  · --10F
    refine lv_iconst (v := 1) hx hb dX3_isMarked_13 (by decide) ?_
    refine lv_goto (tgt := 18) hx hb dX3_isMarked_14 (by decide) ?_
    refine m_zret () hx hb hr hlocks hP hD hS dX3_isMarked_18 (by first | exact Nat.le_of_ble_eq_true rfl | omega) (by first | exact Nat.le_of_ble_eq_true rfl | omega) (by rfl) ?_
    obtain ⟨jZ, ho⟩ := iO_lts c_10
    have hj := (rL_some ho).1
    rw [ho]; rfl

set_option maxHeartbeats 4000000 in
set_option maxRecDepth 100000 in
theorem c_X3_marked (l : Launch) (D : va_G) (I J : ClassId) (sz : Nat) (yZ : Nat) (akZ : Nat) (avZ : Nat) (awZ : Nat) (aoZ : Nat) (amZ : Nat) (lkZ : Nat) (lvZ : Nat) (luZ : Nat) (ipZ : Int32) (iwZ : Int32) (nmZ : Nat) (ilZ : Int32) (irZ : Int32) (iuZ : Int32) (iaZ : Int32) (icZ : Int32)  : mCi l yX3_marked wsX3_marked 0 0 0 0 D I J [.ref yZ] [(yZ, .inr (3, [.ref akZ, .ref avZ, .ref awZ, .ref aoZ, .ref amZ, .ref lkZ, .ref lvZ, .ref luZ, .int ipZ, .int iwZ, .int (nI nmZ), .int ilZ, .int irZ, .int iuZ, .int iaZ, .int icZ]))] sz (fun (x : Int32) (u : Unit) => x = (nI nmZ)) (fun (u : Unit) => [(yZ, .inr (3, [.ref akZ, .ref avZ, .ref awZ, .ref aoZ, .ref amZ, .ref lkZ, .ref lvZ, .ref luZ, .int ipZ, .int iwZ, .int (nI nmZ), .int ilZ, .int irZ, .int iuZ, .int iaZ, .int 0]))]) := by
  refine m_ofi (cc := cX3_marked) (maxL := 1) (ret := (some .int)) (by decide) rfl (Nat.le_of_ble_eq_true rfl) ?_
  intro p e s m args below meth c A ls hx hb hr hlocks hml hts hown hin hK hP hD hA hS hl
  have hl : lv_has ls 1 [(0, .ref yZ)] := hl
  have hP : va_P D vwCl [(yZ, .inr (3, [.ref akZ, .ref avZ, .ref awZ, .ref aoZ, .ref amZ, .ref lkZ, .ref lvZ, .ref luZ, .int ipZ, .int iwZ, .int (nI nmZ), .int ilZ, .int irZ, .int iuZ, .int iaZ, .int icZ]))] s.heap := hP
  have hD : va_D A [(yZ, .inr (3, [.ref akZ, .ref avZ, .ref awZ, .ref aoZ, .ref amZ, .ref lkZ, .ref lvZ, .ref luZ, .int ipZ, .int iwZ, .int (nI nmZ), .int ilZ, .int irZ, .int iuZ, .int iaZ, .int icZ]))] := hD
  refine lv_aload_n hx hb dX3_marked_0 rfl (lv_at hl 0 rfl) ?_
  refine lv_iconst (v := 0) hx hb dX3_marked_1 (by decide) ?_
  refine va_put (D := D) (ci := 3) (v := .int 0) (ty := .int) (C := RX3) (T := TX3) (N := 16) hx hb hts (fun _ h => List.mem_cons_of_mem _ (List.mem_append_right _ h)) tyX3 tyX3_ok nmX3 hown hK hP hD hS 0 rfl rfl 15 (by decide) (hts (.fieldLink RX3 38 "MapsByUseModel" "code" "I") (List.mem_of_getElem? (i := 1) (by decide +kernel))) (fun _ h9 => h9) rfl (by decide +kernel) rfl rfl (Nat.le_of_ble_eq_true rfl) dX3_marked_2 (fun H locs hP hD hS => ?_)
  have hP : va_P D vwCl [(yZ, .inr (3, [.ref akZ, .ref avZ, .ref awZ, .ref aoZ, .ref amZ, .ref lkZ, .ref lvZ, .ref luZ, .int ipZ, .int iwZ, .int (nI nmZ), .int ilZ, .int irZ, .int iuZ, .int iaZ, .int 0]))] H := hP
  have hD : va_D A [(yZ, .inr (3, [.ref akZ, .ref avZ, .ref awZ, .ref aoZ, .ref amZ, .ref lkZ, .ref lvZ, .ref luZ, .int ipZ, .int iwZ, .int (nI nmZ), .int ilZ, .int irZ, .int iuZ, .int iaZ, .int 0]))] := hD
  refine lv_aload_n hx hb dX3_marked_5 rfl (lv_at hl 0 rfl) ?_
  refine va_get (D := D) (ci := 3) (v := .int (nI nmZ)) (C := RX3) (T := TX3) (N := 16) hx hb hts (fun _ h => List.mem_cons_of_mem _ (List.mem_append_right _ h)) hown hK hP 0 rfl rfl 10 (by decide) (hts (.fieldLink RX3 94 "MapsByUseModel" "markMany" "I") (List.mem_of_getElem? (i := 2) (by decide +kernel))) (fun _ h9 => h9) rfl dX3_marked_6 ?_
  refine m_iret () hx hb hr hlocks hP hD hS dX3_marked_9 (by first | exact Nat.le_of_ble_eq_true rfl | omega) (by first | exact Nat.le_of_ble_eq_true rfl | omega) ?_
  rfl

set_option maxHeartbeats 4000000 in
set_option maxRecDepth 100000 in
theorem c_X3_markKeys (l : Launch) (D : va_G) (I J : ClassId) (sz : Nat) (yZ : Nat) (akZ : Nat) (avZ : Nat) (awZ : Nat) (aoZ : Nat) (amZ : Nat) (lkZ : Nat) (lvZ : Nat) (luZ : Nat) (npZ : Nat) (iwZ : Int32) (nmZ : Nat) (ilZ : Int32) (irZ : Int32) (iuZ : Int32) (iaZ : Int32) (icZ : Int32) (fZ : Nat → Int32) (fmZ : Nat → Int32) (hq : nmZ + (cntP (qL fmZ nmZ fZ) npZ) ≤ 200) (hall : (mkWL fZ npZ (fmZ, nmZ)).2 ≤ 200) (hnp : npZ ≤ 200) (hnm : nmZ ≤ 200) : mCi l yX3_markKeys wsX3_markKeys 3 66 0 0 D I J [.ref yZ] [(yZ, .inr (3, [.ref akZ, .ref avZ, .ref awZ, .ref aoZ, .ref amZ, .ref lkZ, .ref lvZ, .ref luZ, .int (nI npZ), .int iwZ, .int (nI nmZ), .int ilZ, .int irZ, .int iuZ, .int iaZ, .int icZ])), (akZ, .inl (I, 200, .inl fZ)), (amZ, .inl (I, 200, .inl fmZ))] sz (fun (x : Int32) (u : Unit) => x = (nI (mkWL fZ npZ (fmZ, nmZ)).2)) (fun (u : Unit) => [(yZ, .inr (3, [.ref akZ, .ref avZ, .ref awZ, .ref aoZ, .ref amZ, .ref lkZ, .ref lvZ, .ref luZ, .int (nI npZ), .int iwZ, .int (nI ((mkWL fZ npZ (fmZ, nmZ)).2)), .int ilZ, .int irZ, .int iuZ, .int iaZ, .int 0])), (akZ, .inl (I, 200, .inl fZ)), (amZ, .inl (I, 200, .inl ((mkWL fZ npZ (fmZ, nmZ)).1)))]) := by
  refine m_ofi (cc := cX3_markKeys) (maxL := 3) (ret := (some .int)) (by decide) rfl (Nat.le_of_ble_eq_true rfl) ?_
  intro p e s m args below meth c A ls hx hb hr hlocks hml hts hown hin hK hP hD hA hS hl
  have hl : lv_has ls 3 [(0, .ref yZ)] := hl
  have hP : va_P D vwCl [(yZ, .inr (3, [.ref akZ, .ref avZ, .ref awZ, .ref aoZ, .ref amZ, .ref lkZ, .ref lvZ, .ref luZ, .int (nI npZ), .int iwZ, .int (nI nmZ), .int ilZ, .int irZ, .int iuZ, .int iaZ, .int icZ])), (akZ, .inl (I, 200, .inl fZ)), (amZ, .inl (I, 200, .inl fmZ))] s.heap := hP
  have hD : va_D A [(yZ, .inr (3, [.ref akZ, .ref avZ, .ref awZ, .ref aoZ, .ref amZ, .ref lkZ, .ref lvZ, .ref luZ, .int (nI npZ), .int iwZ, .int (nI nmZ), .int ilZ, .int irZ, .int iuZ, .int iaZ, .int icZ])), (akZ, .inl (I, 200, .inl fZ)), (amZ, .inl (I, 200, .inl fmZ))] := hD
  have hle9 : (cntP (qL fmZ nmZ fZ) npZ) ≤ npZ := cntP_le _ _
  refine lv_iconst (v := 0) hx hb dX3_markKeys_0 (by decide) ?_
  refine lv_istore_n (lv' := [(1, .int 0), (0, .ref yZ)]) hx hb dX3_markKeys_1 rfl hl (by decide) rfl (fun ls hl => ?_)
  refine lv_iconst (v := 0) hx hb dX3_markKeys_2 (by decide) ?_
  refine lv_istore_n (lv' := [(2, .int 0), (1, .int 0), (0, .ref yZ)]) hx hb dX3_markKeys_3 rfl hl (by decide) rfl (fun ls hl => ?_)
  have loop_4 : ∀ (k_4 : Nat) (iZ : Nat) (x_1 : Int32) (ex_1 : x_1 = (nI (cntP (qL fmZ nmZ fZ) iZ))) (x_2 : Int32) (ex_2 : x_2 = (nI iZ)) (hi : iZ ≤ npZ) (hm_ : npZ - iZ < k_4) (H : Heap) (locs : List Loc) (hP : va_P D vwCl [(yZ, .inr (3, [.ref akZ, .ref avZ, .ref awZ, .ref aoZ, .ref amZ, .ref lkZ, .ref lvZ, .ref luZ, .int (nI npZ), .int iwZ, .int (nI nmZ), .int ilZ, .int irZ, .int iuZ, .int iaZ, .int icZ])), (akZ, .inl (I, 200, .inl fZ)), (amZ, .inl (I, 200, .inl fmZ))] H) (hD : va_D A [(yZ, .inr (3, [.ref akZ, .ref avZ, .ref awZ, .ref aoZ, .ref amZ, .ref lkZ, .ref lvZ, .ref luZ, .int (nI npZ), .int iwZ, .int (nI nmZ), .int ilZ, .int irZ, .int iuZ, .int iaZ, .int icZ])), (akZ, .inl (I, 200, .inl fZ)), (amZ, .inl (I, 200, .inl fmZ))]) (hS : va_S A s.heap H locs) (ls : Array Slot) (hl : lv_has ls 3 [(0, .ref yZ), (1, .int x_1), (2, .int x_2)]), W p l e (mRm 3 66 0 0) s m args below meth c H locs 0 0 (MQ below (va_Qi (fun (x : Int32) (u : Unit) => x = (nI (mkWL fZ npZ (fmZ, nmZ)).2)) (mB D (fun (u : Unit) => [(yZ, .inr (3, [.ref akZ, .ref avZ, .ref awZ, .ref aoZ, .ref amZ, .ref lkZ, .ref lvZ, .ref luZ, .int (nI npZ), .int iwZ, .int (nI ((mkWL fZ npZ (fmZ, nmZ)).2)), .int ilZ, .int irZ, .int iuZ, .int iaZ, .int 0])), (akZ, .inl (I, 200, .inl fZ)), (amZ, .inl (I, 200, .inl ((mkWL fZ npZ (fmZ, nmZ)).1)))]) A) A) args s 0 0 A) (F0 m 4 ls []) := by
    intro k_4
    induction k_4 with
    | zero => intro iZ x_1 ex_1 x_2 ex_2 hi hm_; exact absurd hm_ (Nat.not_lt_zero _)
    | succ k_4 ih_4 =>
      intro iZ x_1 ex_1 x_2 ex_2 hi hm_ H locs hP hD hS ls hl
      subst ex_1
      subst ex_2
      refine lv_iload_n hx hb dX3_markKeys_4 rfl (lv_at hl 2 rfl) ?_
      refine lv_aload_n hx hb dX3_markKeys_5 rfl (lv_at hl 0 rfl) ?_
      refine va_get (D := D) (ci := 3) (v := .int (nI npZ)) (C := RX3) (T := TX3) (N := 16) hx hb hts (fun _ h => List.mem_cons_of_mem _ (List.mem_append_right _ h)) hown hK hP 0 rfl rfl 8 (by decide) (hts (.fieldLink RX3 41 "MapsByUseModel" "pairs" "I") (List.mem_of_getElem? (i := 1) (by decide +kernel))) (fun _ h9 => h9) rfl dX3_markKeys_6 ?_
      refine lv_icmp_ge (tgt := 39) hx hb dX3_markKeys_9 (by decide) (fun c_9 => ?_) (fun c_9 => ?_)
      · --L49T
        have qq := (nI_leI (by omega) (by omega)).mp c_9
        have ee : iZ = npZ := by omega
        rw [ee] at hl
        refine lv_aload_n hx hb dX3_markKeys_39 rfl (lv_at hl 0 rfl) ?_
        refine lv_aload_n hx hb dX3_markKeys_40 rfl (lv_at hl 0 rfl) ?_
        refine va_get (D := D) (ci := 3) (v := .int (nI nmZ)) (C := RX3) (T := TX3) (N := 16) hx hb hts (fun _ h => List.mem_cons_of_mem _ (List.mem_append_right _ h)) hown hK hP 0 rfl rfl 10 (by decide) (hts (.fieldLink RX3 94 "MapsByUseModel" "markMany" "I") (List.mem_of_getElem? (i := 3) (by decide +kernel))) (fun _ h9 => h9) rfl dX3_markKeys_41 ?_
        refine lv_iload_n hx hb dX3_markKeys_44 rfl (lv_at hl 1 rfl) ?_
        refine lv_iadd hx hb dX3_markKeys_45 ?_
        refine m_topi (y := (nI (nmZ + (cntP (qL fmZ nmZ fZ) npZ)))) (by exact nI_add _ _) ?_
        refine lv_sipush (v := 200) hx hb dX3_markKeys_46 (by decide) ?_
        refine lv_icmp_le (tgt := 56) hx hb dX3_markKeys_49 (by decide) (fun c_49 => ?_) (fun c_49 => ?_)
        · --L49T49T
          refine lv_iconst (v := 0) hx hb dX3_markKeys_56 (by decide) ?_
          refine m_Vi (As := [.int 0]) (wr := [(akZ, .inl (I, 200, .inl fZ)), (amZ, .inl (I, 200, .inl fmZ))]) (ws2 := fun _ => [(yZ, .inr (3, [.ref akZ, .ref avZ, .ref awZ, .ref aoZ, .ref amZ, .ref lkZ, .ref lvZ, .ref luZ, .int (nI npZ), .int iwZ, .int (nI nmZ), .int ilZ, .int irZ, .int iuZ, .int iaZ, .int 0])), (akZ, .inl (I, 200, .inl fZ)), (amZ, .inl (I, 200, .inl fmZ))]) ⟨hx, hb, hml, hown, hts⟩ hA hK hP hD hS hl.1 (c_X3_fails l D I J H.size yZ akZ avZ awZ aoZ amZ lkZ lvZ luZ (nI npZ) iwZ (nI nmZ) ilZ irZ iuZ iaZ icZ 0 ) (cwV 1 hts gX3_markKeys_X3_fails rfl rfl rfl (by decide +kernel) ⟨Nat.le_of_ble_eq_true rfl, Nat.le_of_ble_eq_true rfl⟩) [0] [1, 2] [2, 0, 1] 0 3 rfl rfl rfl rfl rfl (by decide) (by decide) (by decide) (by decide) (fun _ => rfl) rfl rfl (Nat.le_of_ble_eq_true rfl) dX3_markKeys_57 ⟨(by exact Nat.le_of_ble_eq_true rfl), (by exact Nat.le_of_ble_eq_true rfl)⟩ (fun r_57 u_57 H locs hw_57 hP hD hS => ?_)
          try dsimp only at hw_57
          have hP : va_P D vwCl [(yZ, .inr (3, [.ref akZ, .ref avZ, .ref awZ, .ref aoZ, .ref amZ, .ref lkZ, .ref lvZ, .ref luZ, .int (nI npZ), .int iwZ, .int (nI nmZ), .int ilZ, .int irZ, .int iuZ, .int iaZ, .int 0])), (akZ, .inl (I, 200, .inl fZ)), (amZ, .inl (I, 200, .inl fmZ))] H := hP
          have hD : va_D A [(yZ, .inr (3, [.ref akZ, .ref avZ, .ref awZ, .ref aoZ, .ref amZ, .ref lkZ, .ref lvZ, .ref luZ, .int (nI npZ), .int iwZ, .int (nI nmZ), .int ilZ, .int irZ, .int iuZ, .int iaZ, .int 0])), (akZ, .inl (I, 200, .inl fZ)), (amZ, .inl (I, 200, .inl fmZ))] := hD
          subst hw_57
          refine lv_if_eq (tgt := 65) hx hb dX3_markKeys_60 (by decide) (fun c_60 => ?_) (fun c_60 => ?_)
          · --L49T49T60T
            refine lv_iconst (v := 0) hx hb dX3_markKeys_65 (by decide) ?_
            refine lv_istore_n (lv' := [(2, .int 0), (0, .ref yZ), (1, .int (nI (cntP (qL fmZ nmZ fZ) npZ)))]) hx hb dX3_markKeys_66 rfl hl (by decide) rfl (fun ls hl => ?_)
            have loop_67 : ∀ (k_67 : Nat) (iZ : Nat) (n1Z : Nat) (f1Z : Nat → Int32) (x_2 : Int32) (ex_2 : x_2 = (nI iZ)) (hi : iZ ≤ npZ) (hd : mkWL fZ iZ (fmZ, nmZ) = (f1Z, n1Z)) (hm_ : npZ - iZ < k_67) (H : Heap) (locs : List Loc) (hP : va_P D vwCl [(yZ, .inr (3, [.ref akZ, .ref avZ, .ref awZ, .ref aoZ, .ref amZ, .ref lkZ, .ref lvZ, .ref luZ, .int (nI npZ), .int iwZ, .int (nI n1Z), .int ilZ, .int irZ, .int iuZ, .int iaZ, .int 0])), (akZ, .inl (I, 200, .inl fZ)), (amZ, .inl (I, 200, .inl f1Z))] H) (hD : va_D A [(yZ, .inr (3, [.ref akZ, .ref avZ, .ref awZ, .ref aoZ, .ref amZ, .ref lkZ, .ref lvZ, .ref luZ, .int (nI npZ), .int iwZ, .int (nI n1Z), .int ilZ, .int irZ, .int iuZ, .int iaZ, .int 0])), (akZ, .inl (I, 200, .inl fZ)), (amZ, .inl (I, 200, .inl f1Z))]) (hS : va_S A s.heap H locs) (ls : Array Slot) (hl : lv_has ls 3 [(0, .ref yZ), (2, .int x_2)]), W p l e (mRm 3 66 0 0) s m args below meth c H locs 0 0 (MQ below (va_Qi (fun (x : Int32) (u : Unit) => x = (nI (mkWL fZ npZ (fmZ, nmZ)).2)) (mB D (fun (u : Unit) => [(yZ, .inr (3, [.ref akZ, .ref avZ, .ref awZ, .ref aoZ, .ref amZ, .ref lkZ, .ref lvZ, .ref luZ, .int (nI npZ), .int iwZ, .int (nI ((mkWL fZ npZ (fmZ, nmZ)).2)), .int ilZ, .int irZ, .int iuZ, .int iaZ, .int 0])), (akZ, .inl (I, 200, .inl fZ)), (amZ, .inl (I, 200, .inl ((mkWL fZ npZ (fmZ, nmZ)).1)))]) A) A) args s 0 0 A) (F0 m 67 ls []) := by
              intro k_67
              induction k_67 with
              | zero => intro iZ n1Z f1Z x_2 ex_2 hi hd hm_; exact absurd hm_ (Nat.not_lt_zero _)
              | succ k_67 ih_67 =>
                intro iZ n1Z f1Z x_2 ex_2 hi hd hm_ H locs hP hD hS ls hl
                subst ex_2
                have hb1 : n1Z ≤ 200 := by
                  have hb2 := mkWL_mono fZ (fmZ, nmZ) hi
                  rw [hd] at hb2
                  exact Nat.le_trans hb2 hall
                refine lv_iload_n hx hb dX3_markKeys_67 rfl (lv_at hl 1 rfl) ?_
                refine lv_aload_n hx hb dX3_markKeys_68 rfl (lv_at hl 0 rfl) ?_
                refine va_get (D := D) (ci := 3) (v := .int (nI npZ)) (C := RX3) (T := TX3) (N := 16) hx hb hts (fun _ h => List.mem_cons_of_mem _ (List.mem_append_right _ h)) hown hK hP 0 rfl rfl 8 (by decide) (hts (.fieldLink RX3 41 "MapsByUseModel" "pairs" "I") (List.mem_of_getElem? (i := 1) (by decide +kernel))) (fun _ h9 => h9) rfl dX3_markKeys_69 ?_
                refine lv_icmp_ge (tgt := 91) hx hb dX3_markKeys_72 (by decide) (fun c_72 => ?_) (fun c_72 => ?_)
                · --L49T49T60TL6772T
                  have qq := (nI_leI (by omega) (by omega)).mp c_72
                  have ee : iZ = npZ := by omega
                  rw [ee] at hd
                  refine lv_aload_n hx hb dX3_markKeys_91 rfl (lv_at hl 0 rfl) ?_
                  refine va_get (D := D) (ci := 3) (v := .int (nI n1Z)) (C := RX3) (T := TX3) (N := 16) hx hb hts (fun _ h => List.mem_cons_of_mem _ (List.mem_append_right _ h)) hown hK hP 0 rfl rfl 10 (by decide) (hts (.fieldLink RX3 94 "MapsByUseModel" "markMany" "I") (List.mem_of_getElem? (i := 3) (by decide +kernel))) (fun _ h9 => h9) rfl dX3_markKeys_92 ?_
                  have hEq : [(yZ, .inr (3, [.ref akZ, .ref avZ, .ref awZ, .ref aoZ, .ref amZ, .ref lkZ, .ref lvZ, .ref luZ, .int (nI npZ), .int iwZ, .int (nI n1Z), .int ilZ, .int irZ, .int iuZ, .int iaZ, .int 0])), (akZ, .inl (I, 200, .inl fZ)), (amZ, .inl (I, 200, .inl f1Z))] = ([(yZ, .inr (3, [.ref akZ, .ref avZ, .ref awZ, .ref aoZ, .ref amZ, .ref lkZ, .ref lvZ, .ref luZ, .int (nI npZ), .int iwZ, .int (nI ((mkWL fZ npZ (fmZ, nmZ)).2)), .int ilZ, .int irZ, .int iuZ, .int iaZ, .int 0])), (akZ, .inl (I, 200, .inl fZ)), (amZ, .inl (I, 200, .inl ((mkWL fZ npZ (fmZ, nmZ)).1)))] : va_W) := (by simp only [hd])
                  rw [hEq] at hP hD
                  refine m_iret () hx hb hr hlocks hP hD hS dX3_markKeys_95 (by first | exact Nat.le_of_ble_eq_true rfl | omega) (by first | exact Nat.le_of_ble_eq_true rfl | omega) ?_
                  rw [hd]
                · --L49T49T60TL6772F
                  have hlt : iZ < npZ := by
                    rcases Nat.lt_or_ge iZ npZ with q | q
                    · exact q
                    · exact absurd ((nI_leI (by omega) (by omega)).mpr q) c_72
                  refine lv_aload_n hx hb dX3_markKeys_75 rfl (lv_at hl 0 rfl) ?_
                  refine lv_aload_n hx hb dX3_markKeys_76 rfl (lv_at hl 0 rfl) ?_
                  refine va_get (D := D) (ci := 3) (v := .ref akZ) (C := RX3) (T := TX3) (N := 16) hx hb hts (fun _ h => List.mem_cons_of_mem _ (List.mem_append_right _ h)) hown hK hP 0 rfl rfl 0 (by decide) (hts (.fieldLink RX3 7 "MapsByUseModel" "keys" "[I") (List.mem_of_getElem? (i := 2) (by decide +kernel))) (fun _ h9 => h9) rfl dX3_markKeys_77 ?_
                  refine lv_iload_n hx hb dX3_markKeys_80 rfl (lv_at hl 1 rfl) ?_
                  refine m_iald (D := D) (cl := vwCl) hx hb hK hP 1 0 (j := iZ) rfl rfl (by rfl) (by omega) (by omega) dX3_markKeys_81 ?_
                  refine m_Vv (As := [.int (fZ iZ)]) (wr := [(akZ, .inl (I, 200, .inl fZ))]) (ws2 := fun _ => [(yZ, .inr (3, [.ref akZ, .ref avZ, .ref awZ, .ref aoZ, .ref amZ, .ref lkZ, .ref lvZ, .ref luZ, .int (nI npZ), .int iwZ, .int (nI (insN n1Z (rL f1Z (fZ iZ) n1Z))), .int ilZ, .int irZ, .int iuZ, .int iaZ, .int 0])), (akZ, .inl (I, 200, .inl fZ)), (amZ, .inl (I, 200, .inl (insF f1Z n1Z (fZ iZ) (rL f1Z (fZ iZ) n1Z))))]) ⟨hx, hb, hml, hown, hts⟩ hA hK hP hD hS hl.1 (c_X3_marks l D I J H.size yZ akZ avZ awZ aoZ amZ lkZ lvZ luZ (nI npZ) iwZ n1Z ilZ irZ iuZ iaZ 0 f1Z (fZ iZ) (by intro ho; exact ins1L_lt (s := (f1Z, n1Z)) (by rw [← hd]; exact Nat.le_trans (mkWL_mono fZ (fmZ, nmZ) (Nat.succ_le_of_lt hlt)) hall) ho) (by omega)) (cwV 1 hts gX3_markKeys_X3_marks rfl rfl rfl (by decide +kernel) ⟨Nat.le_of_ble_eq_true rfl, Nat.le_of_ble_eq_true rfl⟩) [0, 2] [1] [1, 0, 2] 0 3 rfl rfl rfl rfl rfl (by decide) (by decide) (by decide) (by decide) (fun _ => rfl) rfl rfl (Nat.le_of_ble_eq_true rfl) dX3_markKeys_82 ⟨(by exact Nat.le_of_ble_eq_true rfl), (by exact Nat.le_of_ble_eq_true rfl)⟩ (fun u_82 H locs hw_82 hP hD hS => ?_)
                  clear hw_82
                  have hP : va_P D vwCl [(yZ, .inr (3, [.ref akZ, .ref avZ, .ref awZ, .ref aoZ, .ref amZ, .ref lkZ, .ref lvZ, .ref luZ, .int (nI npZ), .int iwZ, .int (nI (insN n1Z (rL f1Z (fZ iZ) n1Z))), .int ilZ, .int irZ, .int iuZ, .int iaZ, .int 0])), (akZ, .inl (I, 200, .inl fZ)), (amZ, .inl (I, 200, .inl (insF f1Z n1Z (fZ iZ) (rL f1Z (fZ iZ) n1Z))))] H := hP
                  have hD : va_D A [(yZ, .inr (3, [.ref akZ, .ref avZ, .ref awZ, .ref aoZ, .ref amZ, .ref lkZ, .ref lvZ, .ref luZ, .int (nI npZ), .int iwZ, .int (nI (insN n1Z (rL f1Z (fZ iZ) n1Z))), .int ilZ, .int irZ, .int iuZ, .int iaZ, .int 0])), (akZ, .inl (I, 200, .inl fZ)), (amZ, .inl (I, 200, .inl (insF f1Z n1Z (fZ iZ) (rL f1Z (fZ iZ) n1Z))))] := hD
                  refine lv_iinc (v := (nI (iZ + 1))) (lv' := [(2, .int (nI (iZ + 1))), (0, .ref yZ)]) hx hb dX3_markKeys_85 hl (k := 1) rfl (nI_1 _) (by decide) rfl (fun ls hl => ?_)
                  refine lv_goto (tgt := 67) hx hb dX3_markKeys_88 (by decide) ?_
                  exact ih_67  (iZ + 1) (insN n1Z (rL f1Z (fZ iZ) n1Z)) (insF f1Z n1Z (fZ iZ) (rL f1Z (fZ iZ) n1Z)) _ (by rfl) (by first | assumption | omega | rfl) (by show ins1L (mkWL fZ iZ _) _ = _; rw [hd]; rfl) (by omega) _ _ hP hD hS ls (lv_sub hl [1, 0] rfl)
            exact loop_67 (npZ - 0 + 1) 0 nmZ fmZ _ (by first | rfl | simp [nI_1, nI_0]) (by first | assumption | omega | rfl) (by rfl) (by exact Nat.lt_succ_self _) _ _ hP hD hS ls (lv_sub hl [1, 0] rfl)
          · --L49T49T60F
            exact absurd (by decide) c_60
        · --L49T49F
          exact absurd ((nI_leI (b := 200) (by omega) (by omega)).mpr hq) c_49
      · --L49F
        have hlt : iZ < npZ := by
          rcases Nat.lt_or_ge iZ npZ with q | q
          · exact q
          · exact absurd ((nI_leI (by omega) (by omega)).mpr q) c_9
        refine lv_iload_n hx hb dX3_markKeys_12 rfl (lv_at hl 1 rfl) ?_
        refine lv_aload_n hx hb dX3_markKeys_13 rfl (lv_at hl 0 rfl) ?_
        refine lv_aload_n hx hb dX3_markKeys_14 rfl (lv_at hl 0 rfl) ?_
        refine va_get (D := D) (ci := 3) (v := .ref akZ) (C := RX3) (T := TX3) (N := 16) hx hb hts (fun _ h => List.mem_cons_of_mem _ (List.mem_append_right _ h)) hown hK hP 0 rfl rfl 0 (by decide) (hts (.fieldLink RX3 7 "MapsByUseModel" "keys" "[I") (List.mem_of_getElem? (i := 2) (by decide +kernel))) (fun _ h9 => h9) rfl dX3_markKeys_15 ?_
        refine lv_iload_n hx hb dX3_markKeys_18 rfl (lv_at hl 2 rfl) ?_
        refine m_iald (D := D) (cl := vwCl) hx hb hK hP 1 0 (j := iZ) rfl rfl (by rfl) (by omega) (by omega) dX3_markKeys_19 ?_
        refine m_Vi (As := [.int (fZ iZ)]) (wr := [(akZ, .inl (I, 200, .inl fZ))]) (ws2 := fun _ => [(yZ, .inr (3, [.ref akZ, .ref avZ, .ref awZ, .ref aoZ, .ref amZ, .ref lkZ, .ref lvZ, .ref luZ, .int (nI npZ), .int iwZ, .int (nI nmZ), .int ilZ, .int irZ, .int iuZ, .int iaZ, .int icZ])), (akZ, .inl (I, 200, .inl fZ)), (amZ, .inl (I, 200, .inl fmZ))]) ⟨hx, hb, hml, hown, hts⟩ hA hK hP hD hS hl.1 (c_X3_markAt l D I J H.size yZ akZ avZ awZ aoZ amZ lkZ lvZ luZ (nI npZ) iwZ nmZ ilZ irZ iuZ iaZ icZ fmZ (fZ iZ) (by omega)) (cwV 1 hts gX3_markKeys_X3_markAt rfl rfl rfl (by decide +kernel) ⟨Nat.le_of_ble_eq_true rfl, Nat.le_of_ble_eq_true rfl⟩) [0, 2] [1] [1, 0, 2] 0 3 rfl rfl rfl rfl rfl (by decide) (by decide) (by decide) (by decide) (fun _ => rfl) rfl rfl (Nat.le_of_ble_eq_true rfl) dX3_markKeys_20 ⟨(by exact Nat.le_of_ble_eq_true rfl), (by exact Nat.le_of_ble_eq_true rfl)⟩ (fun r_20 u_20 H locs hw_20 hP hD hS => ?_)
        try dsimp only at hw_20
        have hP : va_P D vwCl [(yZ, .inr (3, [.ref akZ, .ref avZ, .ref awZ, .ref aoZ, .ref amZ, .ref lkZ, .ref lvZ, .ref luZ, .int (nI npZ), .int iwZ, .int (nI nmZ), .int ilZ, .int irZ, .int iuZ, .int iaZ, .int icZ])), (akZ, .inl (I, 200, .inl fZ)), (amZ, .inl (I, 200, .inl fmZ))] H := hP
        have hD : va_D A [(yZ, .inr (3, [.ref akZ, .ref avZ, .ref awZ, .ref aoZ, .ref amZ, .ref lkZ, .ref lvZ, .ref luZ, .int (nI npZ), .int iwZ, .int (nI nmZ), .int ilZ, .int irZ, .int iuZ, .int iaZ, .int icZ])), (akZ, .inl (I, 200, .inl fZ)), (amZ, .inl (I, 200, .inl fmZ))] := hD
        subst hw_20
        refine lv_if_ge (tgt := 30) hx hb dX3_markKeys_23 (by decide) (fun c_23 => ?_) (fun c_23 => ?_)
        · --L49F23T
          refine lv_iconst (v := 0) hx hb dX3_markKeys_30 (by decide) ?_
          refine lv_iadd hx hb dX3_markKeys_31 ?_
          refine m_topi (y := (nI (cntP (qL fmZ nmZ fZ) (iZ + 1)))) (by obtain ⟨jZ, ho⟩ := iO_ges c_23; rw [cntP_f (qL_f ho)]; exact Int32.add_zero _) ?_
          refine lv_istore_n (lv' := [(1, .int (nI (cntP (qL fmZ nmZ fZ) (iZ + 1)))), (0, .ref yZ), (2, .int (nI iZ))]) hx hb dX3_markKeys_32 rfl hl (by decide) rfl (fun ls hl => ?_)
          refine lv_iinc (v := (nI (iZ + 1))) (lv' := [(2, .int (nI (iZ + 1))), (1, .int (nI (cntP (qL fmZ nmZ fZ) (iZ + 1)))), (0, .ref yZ)]) hx hb dX3_markKeys_33 hl (k := 2) rfl (nI_1 _) (by decide) rfl (fun ls hl => ?_)
          refine lv_goto (tgt := 4) hx hb dX3_markKeys_36 (by decide) ?_
          exact ih_4  (iZ + 1) _ (by rfl) _ (by rfl) (by first | assumption | omega | rfl) (by omega) _ _ hP hD hS ls (lv_sub hl [2, 1, 0] rfl)
        · --L49F23F
          refine lv_iconst (v := 1) hx hb dX3_markKeys_26 (by decide) ?_
          refine lv_goto (tgt := 31) hx hb dX3_markKeys_27 (by decide) ?_
          refine lv_iadd hx hb dX3_markKeys_31 ?_
          refine m_topi (y := (nI (cntP (qL fmZ nmZ fZ) (iZ + 1)))) (by rw [cntP_t (qL_t (iO_ge c_23 (rL_lt (by omega))))]; exact nI_1 _) ?_
          refine lv_istore_n (lv' := [(1, .int (nI (cntP (qL fmZ nmZ fZ) (iZ + 1)))), (0, .ref yZ), (2, .int (nI iZ))]) hx hb dX3_markKeys_32 rfl hl (by decide) rfl (fun ls hl => ?_)
          refine lv_iinc (v := (nI (iZ + 1))) (lv' := [(2, .int (nI (iZ + 1))), (1, .int (nI (cntP (qL fmZ nmZ fZ) (iZ + 1)))), (0, .ref yZ)]) hx hb dX3_markKeys_33 hl (k := 2) rfl (nI_1 _) (by decide) rfl (fun ls hl => ?_)
          refine lv_goto (tgt := 4) hx hb dX3_markKeys_36 (by decide) ?_
          exact ih_4  (iZ + 1) _ (by rfl) _ (by rfl) (by first | assumption | omega | rfl) (by omega) _ _ hP hD hS ls (lv_sub hl [2, 1, 0] rfl)
  exact loop_4 (npZ - 0 + 1) 0 _ (by first | rfl | simp [nI_1, nI_0]) _ (by first | rfl | simp [nI_1, nI_0]) (by first | assumption | omega | rfl) (by exact Nat.lt_succ_self _) _ _ hP hD hS ls (lv_sub hl [2, 1, 0] rfl)

set_option maxHeartbeats 4000000 in
set_option maxRecDepth 100000 in
theorem c_X3_markKeys_F (l : Launch) (D : va_G) (I J : ClassId) (sz : Nat) (yZ : Nat) (akZ : Nat) (avZ : Nat) (awZ : Nat) (aoZ : Nat) (amZ : Nat) (lkZ : Nat) (lvZ : Nat) (luZ : Nat) (npZ : Nat) (iwZ : Int32) (nmZ : Nat) (ilZ : Int32) (irZ : Int32) (iuZ : Int32) (iaZ : Int32) (icZ : Int32) (fZ : Nat → Int32) (fmZ : Nat → Int32) (hq : 200 < nmZ + (cntP (qL fmZ nmZ fZ) npZ)) (hnp : npZ ≤ 200) (hnm : nmZ ≤ 200) : mCi l yX3_markKeys wsX3_markKeys 2 45 0 0 D I J [.ref yZ] [(yZ, .inr (3, [.ref akZ, .ref avZ, .ref awZ, .ref aoZ, .ref amZ, .ref lkZ, .ref lvZ, .ref luZ, .int (nI npZ), .int iwZ, .int (nI nmZ), .int ilZ, .int irZ, .int iuZ, .int iaZ, .int icZ])), (akZ, .inl (I, 200, .inl fZ)), (amZ, .inl (I, 200, .inl fmZ))] sz (fun (x : Int32) (u : Unit) => x = 0) (fun (u : Unit) => [(yZ, .inr (3, [.ref akZ, .ref avZ, .ref awZ, .ref aoZ, .ref amZ, .ref lkZ, .ref lvZ, .ref luZ, .int (nI npZ), .int iwZ, .int (nI nmZ), .int ilZ, .int irZ, .int iuZ, .int iaZ, .int 1])), (akZ, .inl (I, 200, .inl fZ)), (amZ, .inl (I, 200, .inl fmZ))]) := by
  refine m_ofi (cc := cX3_markKeys) (maxL := 3) (ret := (some .int)) (by decide) rfl (Nat.le_of_ble_eq_true rfl) ?_
  intro p e s m args below meth c A ls hx hb hr hlocks hml hts hown hin hK hP hD hA hS hl
  have hl : lv_has ls 3 [(0, .ref yZ)] := hl
  have hP : va_P D vwCl [(yZ, .inr (3, [.ref akZ, .ref avZ, .ref awZ, .ref aoZ, .ref amZ, .ref lkZ, .ref lvZ, .ref luZ, .int (nI npZ), .int iwZ, .int (nI nmZ), .int ilZ, .int irZ, .int iuZ, .int iaZ, .int icZ])), (akZ, .inl (I, 200, .inl fZ)), (amZ, .inl (I, 200, .inl fmZ))] s.heap := hP
  have hD : va_D A [(yZ, .inr (3, [.ref akZ, .ref avZ, .ref awZ, .ref aoZ, .ref amZ, .ref lkZ, .ref lvZ, .ref luZ, .int (nI npZ), .int iwZ, .int (nI nmZ), .int ilZ, .int irZ, .int iuZ, .int iaZ, .int icZ])), (akZ, .inl (I, 200, .inl fZ)), (amZ, .inl (I, 200, .inl fmZ))] := hD
  have hle9 : (cntP (qL fmZ nmZ fZ) npZ) ≤ npZ := cntP_le _ _
  refine lv_iconst (v := 0) hx hb dX3_markKeys_0 (by decide) ?_
  refine lv_istore_n (lv' := [(1, .int 0), (0, .ref yZ)]) hx hb dX3_markKeys_1 rfl hl (by decide) rfl (fun ls hl => ?_)
  refine lv_iconst (v := 0) hx hb dX3_markKeys_2 (by decide) ?_
  refine lv_istore_n (lv' := [(2, .int 0), (1, .int 0), (0, .ref yZ)]) hx hb dX3_markKeys_3 rfl hl (by decide) rfl (fun ls hl => ?_)
  have loop_4 : ∀ (k_4 : Nat) (iZ : Nat) (x_1 : Int32) (ex_1 : x_1 = (nI (cntP (qL fmZ nmZ fZ) iZ))) (x_2 : Int32) (ex_2 : x_2 = (nI iZ)) (hi : iZ ≤ npZ) (hm_ : npZ - iZ < k_4) (H : Heap) (locs : List Loc) (hP : va_P D vwCl [(yZ, .inr (3, [.ref akZ, .ref avZ, .ref awZ, .ref aoZ, .ref amZ, .ref lkZ, .ref lvZ, .ref luZ, .int (nI npZ), .int iwZ, .int (nI nmZ), .int ilZ, .int irZ, .int iuZ, .int iaZ, .int icZ])), (akZ, .inl (I, 200, .inl fZ)), (amZ, .inl (I, 200, .inl fmZ))] H) (hD : va_D A [(yZ, .inr (3, [.ref akZ, .ref avZ, .ref awZ, .ref aoZ, .ref amZ, .ref lkZ, .ref lvZ, .ref luZ, .int (nI npZ), .int iwZ, .int (nI nmZ), .int ilZ, .int irZ, .int iuZ, .int iaZ, .int icZ])), (akZ, .inl (I, 200, .inl fZ)), (amZ, .inl (I, 200, .inl fmZ))]) (hS : va_S A s.heap H locs) (ls : Array Slot) (hl : lv_has ls 3 [(0, .ref yZ), (1, .int x_1), (2, .int x_2)]), W p l e (mRm 2 45 0 0) s m args below meth c H locs 0 0 (MQ below (va_Qi (fun (x : Int32) (u : Unit) => x = 0) (mB D (fun (u : Unit) => [(yZ, .inr (3, [.ref akZ, .ref avZ, .ref awZ, .ref aoZ, .ref amZ, .ref lkZ, .ref lvZ, .ref luZ, .int (nI npZ), .int iwZ, .int (nI nmZ), .int ilZ, .int irZ, .int iuZ, .int iaZ, .int 1])), (akZ, .inl (I, 200, .inl fZ)), (amZ, .inl (I, 200, .inl fmZ))]) A) A) args s 0 0 A) (F0 m 4 ls []) := by
    intro k_4
    induction k_4 with
    | zero => intro iZ x_1 ex_1 x_2 ex_2 hi hm_; exact absurd hm_ (Nat.not_lt_zero _)
    | succ k_4 ih_4 =>
      intro iZ x_1 ex_1 x_2 ex_2 hi hm_ H locs hP hD hS ls hl
      subst ex_1
      subst ex_2
      refine lv_iload_n hx hb dX3_markKeys_4 rfl (lv_at hl 2 rfl) ?_
      refine lv_aload_n hx hb dX3_markKeys_5 rfl (lv_at hl 0 rfl) ?_
      refine va_get (D := D) (ci := 3) (v := .int (nI npZ)) (C := RX3) (T := TX3) (N := 16) hx hb hts (fun _ h => List.mem_cons_of_mem _ (List.mem_append_right _ h)) hown hK hP 0 rfl rfl 8 (by decide) (hts (.fieldLink RX3 41 "MapsByUseModel" "pairs" "I") (List.mem_of_getElem? (i := 1) (by decide +kernel))) (fun _ h9 => h9) rfl dX3_markKeys_6 ?_
      refine lv_icmp_ge (tgt := 39) hx hb dX3_markKeys_9 (by decide) (fun c_9 => ?_) (fun c_9 => ?_)
      · --L49T
        have qq := (nI_leI (by omega) (by omega)).mp c_9
        have ee : iZ = npZ := by omega
        rw [ee] at hl
        refine lv_aload_n hx hb dX3_markKeys_39 rfl (lv_at hl 0 rfl) ?_
        refine lv_aload_n hx hb dX3_markKeys_40 rfl (lv_at hl 0 rfl) ?_
        refine va_get (D := D) (ci := 3) (v := .int (nI nmZ)) (C := RX3) (T := TX3) (N := 16) hx hb hts (fun _ h => List.mem_cons_of_mem _ (List.mem_append_right _ h)) hown hK hP 0 rfl rfl 10 (by decide) (hts (.fieldLink RX3 94 "MapsByUseModel" "markMany" "I") (List.mem_of_getElem? (i := 3) (by decide +kernel))) (fun _ h9 => h9) rfl dX3_markKeys_41 ?_
        refine lv_iload_n hx hb dX3_markKeys_44 rfl (lv_at hl 1 rfl) ?_
        refine lv_iadd hx hb dX3_markKeys_45 ?_
        refine m_topi (y := (nI (nmZ + (cntP (qL fmZ nmZ fZ) npZ)))) (by exact nI_add _ _) ?_
        refine lv_sipush (v := 200) hx hb dX3_markKeys_46 (by decide) ?_
        refine lv_icmp_le (tgt := 56) hx hb dX3_markKeys_49 (by decide) (fun c_49 => ?_) (fun c_49 => ?_)
        · --L49T49T
          exact absurd c_49 (nI_ge hq (by omega))
        · --L49T49F
          refine lv_iconst (v := 1) hx hb dX3_markKeys_52 (by decide) ?_
          refine lv_goto (tgt := 57) hx hb dX3_markKeys_53 (by decide) ?_
          refine m_Vi (As := [.int 1]) (wr := [(akZ, .inl (I, 200, .inl fZ)), (amZ, .inl (I, 200, .inl fmZ))]) (ws2 := fun _ => [(yZ, .inr (3, [.ref akZ, .ref avZ, .ref awZ, .ref aoZ, .ref amZ, .ref lkZ, .ref lvZ, .ref luZ, .int (nI npZ), .int iwZ, .int (nI nmZ), .int ilZ, .int irZ, .int iuZ, .int iaZ, .int 1])), (akZ, .inl (I, 200, .inl fZ)), (amZ, .inl (I, 200, .inl fmZ))]) ⟨hx, hb, hml, hown, hts⟩ hA hK hP hD hS hl.1 (c_X3_fails l D I J H.size yZ akZ avZ awZ aoZ amZ lkZ lvZ luZ (nI npZ) iwZ (nI nmZ) ilZ irZ iuZ iaZ icZ 1 ) (cwV 1 hts gX3_markKeys_X3_fails rfl rfl rfl (by decide +kernel) ⟨Nat.le_of_ble_eq_true rfl, Nat.le_of_ble_eq_true rfl⟩) [0] [1, 2] [2, 0, 1] 0 3 rfl rfl rfl rfl rfl (by decide) (by decide) (by decide) (by decide) (fun _ => rfl) rfl rfl (Nat.le_of_ble_eq_true rfl) dX3_markKeys_57 ⟨(by exact Nat.le_of_ble_eq_true rfl), (by exact Nat.le_of_ble_eq_true rfl)⟩ (fun r_57 u_57 H locs hw_57 hP hD hS => ?_)
          try dsimp only at hw_57
          have hP : va_P D vwCl [(yZ, .inr (3, [.ref akZ, .ref avZ, .ref awZ, .ref aoZ, .ref amZ, .ref lkZ, .ref lvZ, .ref luZ, .int (nI npZ), .int iwZ, .int (nI nmZ), .int ilZ, .int irZ, .int iuZ, .int iaZ, .int 1])), (akZ, .inl (I, 200, .inl fZ)), (amZ, .inl (I, 200, .inl fmZ))] H := hP
          have hD : va_D A [(yZ, .inr (3, [.ref akZ, .ref avZ, .ref awZ, .ref aoZ, .ref amZ, .ref lkZ, .ref lvZ, .ref luZ, .int (nI npZ), .int iwZ, .int (nI nmZ), .int ilZ, .int irZ, .int iuZ, .int iaZ, .int 1])), (akZ, .inl (I, 200, .inl fZ)), (amZ, .inl (I, 200, .inl fmZ))] := hD
          subst hw_57
          refine lv_if_eq (tgt := 65) hx hb dX3_markKeys_60 (by decide) (fun c_60 => ?_) (fun c_60 => ?_)
          · --L49T49F60T
            exact absurd c_60 (by decide)
          · --L49T49F60F
            refine lv_iconst (v := 0) hx hb dX3_markKeys_63 (by decide) ?_
            refine m_iret () hx hb hr hlocks hP hD hS dX3_markKeys_64 (by first | exact Nat.le_of_ble_eq_true rfl | omega) (by first | exact Nat.le_of_ble_eq_true rfl | omega) ?_
            rfl
      · --L49F
        have hlt : iZ < npZ := by
          rcases Nat.lt_or_ge iZ npZ with q | q
          · exact q
          · exact absurd ((nI_leI (by omega) (by omega)).mpr q) c_9
        refine lv_iload_n hx hb dX3_markKeys_12 rfl (lv_at hl 1 rfl) ?_
        refine lv_aload_n hx hb dX3_markKeys_13 rfl (lv_at hl 0 rfl) ?_
        refine lv_aload_n hx hb dX3_markKeys_14 rfl (lv_at hl 0 rfl) ?_
        refine va_get (D := D) (ci := 3) (v := .ref akZ) (C := RX3) (T := TX3) (N := 16) hx hb hts (fun _ h => List.mem_cons_of_mem _ (List.mem_append_right _ h)) hown hK hP 0 rfl rfl 0 (by decide) (hts (.fieldLink RX3 7 "MapsByUseModel" "keys" "[I") (List.mem_of_getElem? (i := 2) (by decide +kernel))) (fun _ h9 => h9) rfl dX3_markKeys_15 ?_
        refine lv_iload_n hx hb dX3_markKeys_18 rfl (lv_at hl 2 rfl) ?_
        refine m_iald (D := D) (cl := vwCl) hx hb hK hP 1 0 (j := iZ) rfl rfl (by rfl) (by omega) (by omega) dX3_markKeys_19 ?_
        refine m_Vi (As := [.int (fZ iZ)]) (wr := [(akZ, .inl (I, 200, .inl fZ))]) (ws2 := fun _ => [(yZ, .inr (3, [.ref akZ, .ref avZ, .ref awZ, .ref aoZ, .ref amZ, .ref lkZ, .ref lvZ, .ref luZ, .int (nI npZ), .int iwZ, .int (nI nmZ), .int ilZ, .int irZ, .int iuZ, .int iaZ, .int icZ])), (akZ, .inl (I, 200, .inl fZ)), (amZ, .inl (I, 200, .inl fmZ))]) ⟨hx, hb, hml, hown, hts⟩ hA hK hP hD hS hl.1 (c_X3_markAt l D I J H.size yZ akZ avZ awZ aoZ amZ lkZ lvZ luZ (nI npZ) iwZ nmZ ilZ irZ iuZ iaZ icZ fmZ (fZ iZ) (by omega)) (cwV 1 hts gX3_markKeys_X3_markAt rfl rfl rfl (by decide +kernel) ⟨Nat.le_of_ble_eq_true rfl, Nat.le_of_ble_eq_true rfl⟩) [0, 2] [1] [1, 0, 2] 0 3 rfl rfl rfl rfl rfl (by decide) (by decide) (by decide) (by decide) (fun _ => rfl) rfl rfl (Nat.le_of_ble_eq_true rfl) dX3_markKeys_20 ⟨(by exact Nat.le_of_ble_eq_true rfl), (by exact Nat.le_of_ble_eq_true rfl)⟩ (fun r_20 u_20 H locs hw_20 hP hD hS => ?_)
        try dsimp only at hw_20
        have hP : va_P D vwCl [(yZ, .inr (3, [.ref akZ, .ref avZ, .ref awZ, .ref aoZ, .ref amZ, .ref lkZ, .ref lvZ, .ref luZ, .int (nI npZ), .int iwZ, .int (nI nmZ), .int ilZ, .int irZ, .int iuZ, .int iaZ, .int icZ])), (akZ, .inl (I, 200, .inl fZ)), (amZ, .inl (I, 200, .inl fmZ))] H := hP
        have hD : va_D A [(yZ, .inr (3, [.ref akZ, .ref avZ, .ref awZ, .ref aoZ, .ref amZ, .ref lkZ, .ref lvZ, .ref luZ, .int (nI npZ), .int iwZ, .int (nI nmZ), .int ilZ, .int irZ, .int iuZ, .int iaZ, .int icZ])), (akZ, .inl (I, 200, .inl fZ)), (amZ, .inl (I, 200, .inl fmZ))] := hD
        subst hw_20
        refine lv_if_ge (tgt := 30) hx hb dX3_markKeys_23 (by decide) (fun c_23 => ?_) (fun c_23 => ?_)
        · --L49F23T
          refine lv_iconst (v := 0) hx hb dX3_markKeys_30 (by decide) ?_
          refine lv_iadd hx hb dX3_markKeys_31 ?_
          refine m_topi (y := (nI (cntP (qL fmZ nmZ fZ) (iZ + 1)))) (by obtain ⟨jZ, ho⟩ := iO_ges c_23; rw [cntP_f (qL_f ho)]; exact Int32.add_zero _) ?_
          refine lv_istore_n (lv' := [(1, .int (nI (cntP (qL fmZ nmZ fZ) (iZ + 1)))), (0, .ref yZ), (2, .int (nI iZ))]) hx hb dX3_markKeys_32 rfl hl (by decide) rfl (fun ls hl => ?_)
          refine lv_iinc (v := (nI (iZ + 1))) (lv' := [(2, .int (nI (iZ + 1))), (1, .int (nI (cntP (qL fmZ nmZ fZ) (iZ + 1)))), (0, .ref yZ)]) hx hb dX3_markKeys_33 hl (k := 2) rfl (nI_1 _) (by decide) rfl (fun ls hl => ?_)
          refine lv_goto (tgt := 4) hx hb dX3_markKeys_36 (by decide) ?_
          exact ih_4  (iZ + 1) _ (by rfl) _ (by rfl) (by first | assumption | omega | rfl) (by omega) _ _ hP hD hS ls (lv_sub hl [2, 1, 0] rfl)
        · --L49F23F
          refine lv_iconst (v := 1) hx hb dX3_markKeys_26 (by decide) ?_
          refine lv_goto (tgt := 31) hx hb dX3_markKeys_27 (by decide) ?_
          refine lv_iadd hx hb dX3_markKeys_31 ?_
          refine m_topi (y := (nI (cntP (qL fmZ nmZ fZ) (iZ + 1)))) (by rw [cntP_t (qL_t (iO_ge c_23 (rL_lt (by omega))))]; exact nI_1 _) ?_
          refine lv_istore_n (lv' := [(1, .int (nI (cntP (qL fmZ nmZ fZ) (iZ + 1)))), (0, .ref yZ), (2, .int (nI iZ))]) hx hb dX3_markKeys_32 rfl hl (by decide) rfl (fun ls hl => ?_)
          refine lv_iinc (v := (nI (iZ + 1))) (lv' := [(2, .int (nI (iZ + 1))), (1, .int (nI (cntP (qL fmZ nmZ fZ) (iZ + 1)))), (0, .ref yZ)]) hx hb dX3_markKeys_33 hl (k := 2) rfl (nI_1 _) (by decide) rfl (fun ls hl => ?_)
          refine lv_goto (tgt := 4) hx hb dX3_markKeys_36 (by decide) ?_
          exact ih_4  (iZ + 1) _ (by rfl) _ (by rfl) (by first | assumption | omega | rfl) (by omega) _ _ hP hD hS ls (lv_sub hl [2, 1, 0] rfl)
  exact loop_4 (npZ - 0 + 1) 0 _ (by first | rfl | simp [nI_1, nI_0]) _ (by first | rfl | simp [nI_1, nI_0]) (by first | assumption | omega | rfl) (by exact Nat.lt_succ_self _) _ _ hP hD hS ls (lv_sub hl [2, 1, 0] rfl)

set_option maxHeartbeats 4000000 in
set_option maxRecDepth 100000 in
theorem c_X3_unmarkOthers (l : Launch) (D : va_G) (I J : ClassId) (sz : Nat) (yZ : Nat) (akZ : Nat) (avZ : Nat) (awZ : Nat) (aoZ : Nat) (amZ : Nat) (lkZ : Nat) (lvZ : Nat) (luZ : Nat) (npZ : Nat) (iwZ : Int32) (nmZ : Nat) (ilZ : Int32) (irZ : Int32) (iuZ : Int32) (iaZ : Int32) (icZ : Int32) (fZ : Nat → Int32) (fmZ : Nat → Int32) (hnp : npZ ≤ 200) (hnm : nmZ ≤ 200) : mCi l yX3_unmarkOthers wsX3_unmarkOthers 2 45 0 0 D I J [.ref yZ] [(yZ, .inr (3, [.ref akZ, .ref avZ, .ref awZ, .ref aoZ, .ref amZ, .ref lkZ, .ref lvZ, .ref luZ, .int (nI npZ), .int iwZ, .int (nI nmZ), .int ilZ, .int irZ, .int iuZ, .int iaZ, .int icZ])), (akZ, .inl (I, 200, .inl fZ)), (amZ, .inl (I, 200, .inl fmZ))] sz (fun (x : Int32) (u : Unit) => x = (nI (nmZ - (dropN (fun v9 => !(rL fZ v9 npZ).isSome) nmZ (fmZ, nmZ)).2))) (fun (u : Unit) => [(yZ, .inr (3, [.ref akZ, .ref avZ, .ref awZ, .ref aoZ, .ref amZ, .ref lkZ, .ref lvZ, .ref luZ, .int (nI npZ), .int iwZ, .int (nI ((dropN (fun v9 => !(rL fZ v9 npZ).isSome) nmZ (fmZ, nmZ)).2)), .int ilZ, .int irZ, .int iuZ, .int iaZ, .int 0])), (akZ, .inl (I, 200, .inl fZ)), (amZ, .inl (I, 200, .inl ((dropN (fun v9 => !(rL fZ v9 npZ).isSome) nmZ (fmZ, nmZ)).1)))]) := by
  refine m_ofi (cc := cX3_unmarkOthers) (maxL := 3) (ret := (some .int)) (by decide) rfl (Nat.le_of_ble_eq_true rfl) ?_
  intro p e s m args below meth c A ls hx hb hr hlocks hml hts hown hin hK hP hD hA hS hl
  have hl : lv_has ls 3 [(0, .ref yZ)] := hl
  have hP : va_P D vwCl [(yZ, .inr (3, [.ref akZ, .ref avZ, .ref awZ, .ref aoZ, .ref amZ, .ref lkZ, .ref lvZ, .ref luZ, .int (nI npZ), .int iwZ, .int (nI nmZ), .int ilZ, .int irZ, .int iuZ, .int iaZ, .int icZ])), (akZ, .inl (I, 200, .inl fZ)), (amZ, .inl (I, 200, .inl fmZ))] s.heap := hP
  have hD : va_D A [(yZ, .inr (3, [.ref akZ, .ref avZ, .ref awZ, .ref aoZ, .ref amZ, .ref lkZ, .ref lvZ, .ref luZ, .int (nI npZ), .int iwZ, .int (nI nmZ), .int ilZ, .int irZ, .int iuZ, .int iaZ, .int icZ])), (akZ, .inl (I, 200, .inl fZ)), (amZ, .inl (I, 200, .inl fmZ))] := hD
  refine lv_aload_n hx hb dX3_unmarkOthers_0 rfl (lv_at hl 0 rfl) ?_
  refine lv_iconst (v := 0) hx hb dX3_unmarkOthers_1 (by decide) ?_
  refine va_put (D := D) (ci := 3) (v := .int 0) (ty := .int) (C := RX3) (T := TX3) (N := 16) hx hb hts (fun _ h => List.mem_cons_of_mem _ (List.mem_append_right _ h)) tyX3 tyX3_ok nmX3 hown hK hP hD hS 0 rfl rfl 15 (by decide) (hts (.fieldLink RX3 38 "MapsByUseModel" "code" "I") (List.mem_of_getElem? (i := 1) (by decide +kernel))) (fun _ h9 => h9) rfl (by decide +kernel) rfl rfl (Nat.le_of_ble_eq_true rfl) dX3_unmarkOthers_2 (fun H locs hP hD hS => ?_)
  have hP : va_P D vwCl [(yZ, .inr (3, [.ref akZ, .ref avZ, .ref awZ, .ref aoZ, .ref amZ, .ref lkZ, .ref lvZ, .ref luZ, .int (nI npZ), .int iwZ, .int (nI nmZ), .int ilZ, .int irZ, .int iuZ, .int iaZ, .int 0])), (akZ, .inl (I, 200, .inl fZ)), (amZ, .inl (I, 200, .inl fmZ))] H := hP
  have hD : va_D A [(yZ, .inr (3, [.ref akZ, .ref avZ, .ref awZ, .ref aoZ, .ref amZ, .ref lkZ, .ref lvZ, .ref luZ, .int (nI npZ), .int iwZ, .int (nI nmZ), .int ilZ, .int irZ, .int iuZ, .int iaZ, .int 0])), (akZ, .inl (I, 200, .inl fZ)), (amZ, .inl (I, 200, .inl fmZ))] := hD
  refine lv_aload_n hx hb dX3_unmarkOthers_5 rfl (lv_at hl 0 rfl) ?_
  refine va_get (D := D) (ci := 3) (v := .int (nI nmZ)) (C := RX3) (T := TX3) (N := 16) hx hb hts (fun _ h => List.mem_cons_of_mem _ (List.mem_append_right _ h)) hown hK hP 0 rfl rfl 10 (by decide) (hts (.fieldLink RX3 94 "MapsByUseModel" "markMany" "I") (List.mem_of_getElem? (i := 2) (by decide +kernel))) (fun _ h9 => h9) rfl dX3_unmarkOthers_6 ?_
  refine lv_istore_n (lv' := [(1, .int (nI nmZ)), (0, .ref yZ)]) hx hb dX3_unmarkOthers_9 rfl hl (by decide) rfl (fun ls hl => ?_)
  refine lv_aload_n hx hb dX3_unmarkOthers_10 rfl (lv_at hl 1 rfl) ?_
  refine va_get (D := D) (ci := 3) (v := .int (nI nmZ)) (C := RX3) (T := TX3) (N := 16) hx hb hts (fun _ h => List.mem_cons_of_mem _ (List.mem_append_right _ h)) hown hK hP 0 rfl rfl 10 (by decide) (hts (.fieldLink RX3 94 "MapsByUseModel" "markMany" "I") (List.mem_of_getElem? (i := 2) (by decide +kernel))) (fun _ h9 => h9) rfl dX3_unmarkOthers_11 ?_
  refine lv_iconst (v := 1) hx hb dX3_unmarkOthers_14 (by decide) ?_
  refine lv_isub hx hb dX3_unmarkOthers_15 ?_
  refine lv_istore_n (lv' := [(2, .int ((nI nmZ) - 1)), (1, .int (nI nmZ)), (0, .ref yZ)]) hx hb dX3_unmarkOthers_16 rfl hl (by decide) rfl (fun ls hl => ?_)
  have loop_17 : ∀ (k_17 : Nat) (iZ : Nat) (n1Z : Nat) (f1Z : Nat → Int32) (x_2 : Int32) (ex_2 : x_2 = (nI iZ - 1)) (hi : iZ ≤ n1Z) (hn1 : n1Z ≤ nmZ) (hd : dropN (fun v9 => !(rL fZ v9 npZ).isSome) nmZ (fmZ, nmZ) = dropN (fun v9 => !(rL fZ v9 npZ).isSome) iZ (f1Z, n1Z)) (hm_ : iZ < k_17) (H : Heap) (locs : List Loc) (hP : va_P D vwCl [(yZ, .inr (3, [.ref akZ, .ref avZ, .ref awZ, .ref aoZ, .ref amZ, .ref lkZ, .ref lvZ, .ref luZ, .int (nI npZ), .int iwZ, .int (nI n1Z), .int ilZ, .int irZ, .int iuZ, .int iaZ, .int 0])), (akZ, .inl (I, 200, .inl fZ)), (amZ, .inl (I, 200, .inl f1Z))] H) (hD : va_D A [(yZ, .inr (3, [.ref akZ, .ref avZ, .ref awZ, .ref aoZ, .ref amZ, .ref lkZ, .ref lvZ, .ref luZ, .int (nI npZ), .int iwZ, .int (nI n1Z), .int ilZ, .int irZ, .int iuZ, .int iaZ, .int 0])), (akZ, .inl (I, 200, .inl fZ)), (amZ, .inl (I, 200, .inl f1Z))]) (hS : va_S A s.heap H locs) (ls : Array Slot) (hl : lv_has ls 3 [(0, .ref yZ), (1, .int (nI nmZ)), (2, .int x_2)]), W p l e (mRm 2 45 0 0) s m args below meth c H locs 0 0 (MQ below (va_Qi (fun (x : Int32) (u : Unit) => x = (nI (nmZ - (dropN (fun v9 => !(rL fZ v9 npZ).isSome) nmZ (fmZ, nmZ)).2))) (mB D (fun (u : Unit) => [(yZ, .inr (3, [.ref akZ, .ref avZ, .ref awZ, .ref aoZ, .ref amZ, .ref lkZ, .ref lvZ, .ref luZ, .int (nI npZ), .int iwZ, .int (nI ((dropN (fun v9 => !(rL fZ v9 npZ).isSome) nmZ (fmZ, nmZ)).2)), .int ilZ, .int irZ, .int iuZ, .int iaZ, .int 0])), (akZ, .inl (I, 200, .inl fZ)), (amZ, .inl (I, 200, .inl ((dropN (fun v9 => !(rL fZ v9 npZ).isSome) nmZ (fmZ, nmZ)).1)))]) A) A) args s 0 0 A) (F0 m 17 ls []) := by
    intro k_17
    induction k_17 with
    | zero => intro iZ n1Z f1Z x_2 ex_2 hi hn1 hd hm_; exact absurd hm_ (Nat.not_lt_zero _)
    | succ k_17 ih_17 =>
      intro iZ n1Z f1Z x_2 ex_2 hi hn1 hd hm_ H locs hP hD hS ls hl
      subst ex_2
      refine lv_iload_n hx hb dX3_unmarkOthers_17 rfl (lv_at hl 2 rfl) ?_
      refine lv_if_lt (tgt := 45) hx hb dX3_unmarkOthers_18 (by decide) (fun c_18 => ?_) (fun c_18 => ?_)
      · --L1718T
        have ee : iZ = 0 := by
          rcases Nat.eq_zero_or_pos iZ with q | q
          · exact q
          · obtain ⟨jZ, hj9⟩ : ∃ jZ, iZ = jZ + 1 := ⟨iZ - 1, by omega⟩
            rw [hj9, nI_pred] at c_18
            exact absurd c_18 (nI_pos (by omega))
        rw [ee] at hd
        have hd : (dropN (fun v9 => !(rL fZ v9 npZ).isSome) nmZ (fmZ, nmZ)) = (f1Z, n1Z) := hd
        refine lv_iload_n hx hb dX3_unmarkOthers_45 rfl (lv_at hl 1 rfl) ?_
        refine lv_aload_n hx hb dX3_unmarkOthers_46 rfl (lv_at hl 0 rfl) ?_
        refine va_get (D := D) (ci := 3) (v := .int (nI n1Z)) (C := RX3) (T := TX3) (N := 16) hx hb hts (fun _ h => List.mem_cons_of_mem _ (List.mem_append_right _ h)) hown hK hP 0 rfl rfl 10 (by decide) (hts (.fieldLink RX3 94 "MapsByUseModel" "markMany" "I") (List.mem_of_getElem? (i := 2) (by decide +kernel))) (fun _ h9 => h9) rfl dX3_unmarkOthers_47 ?_
        refine lv_isub hx hb dX3_unmarkOthers_50 ?_
        refine m_topi (y := (nI (nmZ - n1Z))) (by exact pk_sub (by omega)) ?_
        have hEq : [(yZ, .inr (3, [.ref akZ, .ref avZ, .ref awZ, .ref aoZ, .ref amZ, .ref lkZ, .ref lvZ, .ref luZ, .int (nI npZ), .int iwZ, .int (nI n1Z), .int ilZ, .int irZ, .int iuZ, .int iaZ, .int 0])), (akZ, .inl (I, 200, .inl fZ)), (amZ, .inl (I, 200, .inl f1Z))] = ([(yZ, .inr (3, [.ref akZ, .ref avZ, .ref awZ, .ref aoZ, .ref amZ, .ref lkZ, .ref lvZ, .ref luZ, .int (nI npZ), .int iwZ, .int (nI ((dropN (fun v9 => !(rL fZ v9 npZ).isSome) nmZ (fmZ, nmZ)).2)), .int ilZ, .int irZ, .int iuZ, .int iaZ, .int 0])), (akZ, .inl (I, 200, .inl fZ)), (amZ, .inl (I, 200, .inl ((dropN (fun v9 => !(rL fZ v9 npZ).isSome) nmZ (fmZ, nmZ)).1)))] : va_W) := (by simp only [hd])
        rw [hEq] at hP hD
        refine m_iret () hx hb hr hlocks hP hD hS dX3_unmarkOthers_51 (by first | exact Nat.le_of_ble_eq_true rfl | omega) (by first | exact Nat.le_of_ble_eq_true rfl | omega) ?_
        rw [hd]
      · --L1718F
        obtain ⟨iZ, rfl⟩ : ∃ jZ, iZ = jZ + 1 := ⟨iZ - 1, by
          rcases Nat.eq_zero_or_pos iZ with q | q
          · subst q; exact absurd (by decide) c_18
          · omega⟩
        rw [nI_pred] at hl
        refine lv_aload_n hx hb dX3_unmarkOthers_21 rfl (lv_at hl 0 rfl) ?_
        refine lv_aload_n hx hb dX3_unmarkOthers_22 rfl (lv_at hl 0 rfl) ?_
        refine va_get (D := D) (ci := 3) (v := .ref amZ) (C := RX3) (T := TX3) (N := 16) hx hb hts (fun _ h => List.mem_cons_of_mem _ (List.mem_append_right _ h)) hown hK hP 0 rfl rfl 4 (by decide) (hts (.fieldLink RX3 22 "MapsByUseModel" "marks" "[I") (List.mem_of_getElem? (i := 3) (by decide +kernel))) (fun _ h9 => h9) rfl dX3_unmarkOthers_23 ?_
        refine lv_iload_n hx hb dX3_unmarkOthers_26 rfl (lv_at hl 2 rfl) ?_
        refine m_iald (D := D) (cl := vwCl) hx hb hK hP 2 0 (j := iZ) rfl rfl (by rfl) (by omega) (by omega) dX3_unmarkOthers_27 ?_
        refine m_Vi (As := [.int (f1Z iZ)]) (wr := [(amZ, .inl (I, 200, .inl f1Z))]) (ws2 := fun _ => [(yZ, .inr (3, [.ref akZ, .ref avZ, .ref awZ, .ref aoZ, .ref amZ, .ref lkZ, .ref lvZ, .ref luZ, .int (nI npZ), .int iwZ, .int (nI n1Z), .int ilZ, .int irZ, .int iuZ, .int iaZ, .int 0])), (akZ, .inl (I, 200, .inl fZ)), (amZ, .inl (I, 200, .inl f1Z))]) ⟨hx, hb, hml, hown, hts⟩ hA hK hP hD hS hl.1 (c_X3_at l D I J H.size yZ akZ avZ awZ aoZ amZ lkZ lvZ luZ npZ iwZ (nI n1Z) ilZ irZ iuZ iaZ 0 fZ (f1Z iZ) (by omega)) (cwV 1 hts gX3_unmarkOthers_X3_at rfl rfl rfl (by decide +kernel) ⟨Nat.le_of_ble_eq_true rfl, Nat.le_of_ble_eq_true rfl⟩) [0, 1] [2] [1, 2, 0] 0 3 rfl rfl rfl rfl rfl (by decide) (by decide) (by decide) (by decide) (fun _ => rfl) rfl rfl (Nat.le_of_ble_eq_true rfl) dX3_unmarkOthers_28 ⟨(by exact Nat.le_of_ble_eq_true rfl), (by exact Nat.le_of_ble_eq_true rfl)⟩ (fun r_28 u_28 H locs hw_28 hP hD hS => ?_)
        try dsimp only at hw_28
        have hP : va_P D vwCl [(yZ, .inr (3, [.ref akZ, .ref avZ, .ref awZ, .ref aoZ, .ref amZ, .ref lkZ, .ref lvZ, .ref luZ, .int (nI npZ), .int iwZ, .int (nI n1Z), .int ilZ, .int irZ, .int iuZ, .int iaZ, .int 0])), (akZ, .inl (I, 200, .inl fZ)), (amZ, .inl (I, 200, .inl f1Z))] H := hP
        have hD : va_D A [(yZ, .inr (3, [.ref akZ, .ref avZ, .ref awZ, .ref aoZ, .ref amZ, .ref lkZ, .ref lvZ, .ref luZ, .int (nI npZ), .int iwZ, .int (nI n1Z), .int ilZ, .int irZ, .int iuZ, .int iaZ, .int 0])), (akZ, .inl (I, 200, .inl fZ)), (amZ, .inl (I, 200, .inl f1Z))] := hD
        subst hw_28
        refine lv_if_ge (tgt := 39) hx hb dX3_unmarkOthers_31 (by decide) (fun c_31 => ?_) (fun c_31 => ?_)
        · --L1718F31T
          refine lv_iinc (v := ((nI iZ) + (-1))) (lv' := [(2, .int ((nI iZ) + (-1))), (0, .ref yZ), (1, .int (nI nmZ))]) hx hb dX3_unmarkOthers_39 hl (k := 2) rfl rfl (by decide) rfl (fun ls hl => ?_)
          refine lv_goto (tgt := 17) hx hb dX3_unmarkOthers_42 (by decide) ?_
          exact ih_17  iZ n1Z f1Z _ (by exact (Int32.sub_eq_add_neg _ _).symm) (by omega) (by omega) (by exact hd.trans (congrArg (dropN _ iZ) (if_neg (by obtain ⟨jZ, ho⟩ := iO_ges c_31; simp [ho])))) (by omega) _ _ hP hD hS ls (lv_sub hl [1, 2, 0] rfl)
        · --L1718F31F
          refine lv_aload_n hx hb dX3_unmarkOthers_34 rfl (lv_at hl 0 rfl) ?_
          refine lv_iload_n hx hb dX3_unmarkOthers_35 rfl (lv_at hl 2 rfl) ?_
          refine m_Vv (As := [.int (nI iZ)]) (wr := [(akZ, .inl (I, 200, .inl fZ))]) (ws2 := fun _ => [(yZ, .inr (3, [.ref akZ, .ref avZ, .ref awZ, .ref aoZ, .ref amZ, .ref lkZ, .ref lvZ, .ref luZ, .int (nI npZ), .int iwZ, .int (nI (n1Z - 1)), .int ilZ, .int irZ, .int iuZ, .int iaZ, .int 0])), (akZ, .inl (I, 200, .inl fZ)), (amZ, .inl (I, 200, .inl (swF f1Z n1Z iZ)))]) ⟨hx, hb, hml, hown, hts⟩ hA hK hP hD hS hl.1 (c_X3_unmarks l D I J H.size yZ akZ avZ awZ aoZ amZ lkZ lvZ luZ (nI npZ) iwZ n1Z ilZ irZ iuZ iaZ 0 f1Z iZ (by omega) (by omega)) (cwV 1 hts gX3_unmarkOthers_X3_unmarks rfl rfl rfl (by decide +kernel) ⟨Nat.le_of_ble_eq_true rfl, Nat.le_of_ble_eq_true rfl⟩) [0, 2] [1] [1, 0, 2] 0 3 rfl rfl rfl rfl rfl (by decide) (by decide) (by decide) (by decide) (fun _ => rfl) rfl rfl (Nat.le_of_ble_eq_true rfl) dX3_unmarkOthers_36 ⟨(by exact Nat.le_of_ble_eq_true rfl), (by exact Nat.le_of_ble_eq_true rfl)⟩ (fun u_36 H locs hw_36 hP hD hS => ?_)
          clear hw_36
          have hP : va_P D vwCl [(yZ, .inr (3, [.ref akZ, .ref avZ, .ref awZ, .ref aoZ, .ref amZ, .ref lkZ, .ref lvZ, .ref luZ, .int (nI npZ), .int iwZ, .int (nI (n1Z - 1)), .int ilZ, .int irZ, .int iuZ, .int iaZ, .int 0])), (akZ, .inl (I, 200, .inl fZ)), (amZ, .inl (I, 200, .inl (swF f1Z n1Z iZ)))] H := hP
          have hD : va_D A [(yZ, .inr (3, [.ref akZ, .ref avZ, .ref awZ, .ref aoZ, .ref amZ, .ref lkZ, .ref lvZ, .ref luZ, .int (nI npZ), .int iwZ, .int (nI (n1Z - 1)), .int ilZ, .int irZ, .int iuZ, .int iaZ, .int 0])), (akZ, .inl (I, 200, .inl fZ)), (amZ, .inl (I, 200, .inl (swF f1Z n1Z iZ)))] := hD
          refine lv_iinc (v := ((nI iZ) + (-1))) (lv' := [(2, .int ((nI iZ) + (-1))), (0, .ref yZ), (1, .int (nI nmZ))]) hx hb dX3_unmarkOthers_39 hl (k := 2) rfl rfl (by decide) rfl (fun ls hl => ?_)
          refine lv_goto (tgt := 17) hx hb dX3_unmarkOthers_42 (by decide) ?_
          exact ih_17  iZ (n1Z - 1) (swF f1Z n1Z iZ) _ (by exact (Int32.sub_eq_add_neg _ _).symm) (by omega) (by omega) (by exact hd.trans (congrArg (dropN _ iZ) (if_pos (by simp [iO_ge c_31 (rL_lt (by omega))])))) (by omega) _ _ hP hD hS ls (lv_sub hl [1, 2, 0] rfl)
  exact loop_17 (nmZ + 1) nmZ nmZ fmZ _ (by first | rfl | simp [nI_1, nI_0]) (by exact Nat.le_refl _) (by exact Nat.le_refl _) (by rfl) (by exact Nat.lt_succ_self _) _ _ hP hD hS ls (lv_sub hl [2, 1, 0] rfl)

set_option maxHeartbeats 4000000 in
set_option maxRecDepth 100000 in
theorem c_X3_dropMarked (l : Launch) (D : va_G) (I J : ClassId) (sz : Nat) (yZ : Nat) (akZ : Nat) (avZ : Nat) (awZ : Nat) (aoZ : Nat) (amZ : Nat) (lkZ : Nat) (lvZ : Nat) (luZ : Nat) (npZ : Nat) (iwZ : Int32) (nmZ : Nat) (ilZ : Int32) (irZ : Int32) (iuZ : Int32) (iaZ : Int32) (icZ : Int32) (fZ : Nat → Int32) (gZ : Nat → Int32) (fmZ : Nat → Int32) (hnp : npZ ≤ 200) (hnm : nmZ ≤ 200) : mCi l yX3_dropMarked wsX3_dropMarked 2 45 0 0 D I J [.ref yZ] [(yZ, .inr (3, [.ref akZ, .ref avZ, .ref awZ, .ref aoZ, .ref amZ, .ref lkZ, .ref lvZ, .ref luZ, .int (nI npZ), .int iwZ, .int (nI nmZ), .int ilZ, .int irZ, .int iuZ, .int iaZ, .int icZ])), (akZ, .inl (I, 200, .inl fZ)), (avZ, .inl (I, 200, .inl gZ)), (amZ, .inl (I, 200, .inl fmZ))] sz (fun (x : Int32) (u : Unit) => x = (nI (npZ - (dropM (fun k9 _ => (rL fmZ k9 nmZ).isSome) npZ (fZ, gZ, npZ)).2.2))) (fun (u : Unit) => [(yZ, .inr (3, [.ref akZ, .ref avZ, .ref awZ, .ref aoZ, .ref amZ, .ref lkZ, .ref lvZ, .ref luZ, .int (nI ((dropM (fun k9 _ => (rL fmZ k9 nmZ).isSome) npZ (fZ, gZ, npZ)).2.2)), .int iwZ, .int (nI nmZ), .int ilZ, .int irZ, .int iuZ, .int iaZ, .int 0])), (akZ, .inl (I, 200, .inl ((dropM (fun k9 _ => (rL fmZ k9 nmZ).isSome) npZ (fZ, gZ, npZ)).1))), (avZ, .inl (I, 200, .inl ((dropM (fun k9 _ => (rL fmZ k9 nmZ).isSome) npZ (fZ, gZ, npZ)).2.1))), (amZ, .inl (I, 200, .inl fmZ))]) := by
  refine m_ofi (cc := cX3_dropMarked) (maxL := 3) (ret := (some .int)) (by decide) rfl (Nat.le_of_ble_eq_true rfl) ?_
  intro p e s m args below meth c A ls hx hb hr hlocks hml hts hown hin hK hP hD hA hS hl
  have hl : lv_has ls 3 [(0, .ref yZ)] := hl
  have hP : va_P D vwCl [(yZ, .inr (3, [.ref akZ, .ref avZ, .ref awZ, .ref aoZ, .ref amZ, .ref lkZ, .ref lvZ, .ref luZ, .int (nI npZ), .int iwZ, .int (nI nmZ), .int ilZ, .int irZ, .int iuZ, .int iaZ, .int icZ])), (akZ, .inl (I, 200, .inl fZ)), (avZ, .inl (I, 200, .inl gZ)), (amZ, .inl (I, 200, .inl fmZ))] s.heap := hP
  have hD : va_D A [(yZ, .inr (3, [.ref akZ, .ref avZ, .ref awZ, .ref aoZ, .ref amZ, .ref lkZ, .ref lvZ, .ref luZ, .int (nI npZ), .int iwZ, .int (nI nmZ), .int ilZ, .int irZ, .int iuZ, .int iaZ, .int icZ])), (akZ, .inl (I, 200, .inl fZ)), (avZ, .inl (I, 200, .inl gZ)), (amZ, .inl (I, 200, .inl fmZ))] := hD
  refine lv_aload_n hx hb dX3_dropMarked_0 rfl (lv_at hl 0 rfl) ?_
  refine lv_iconst (v := 0) hx hb dX3_dropMarked_1 (by decide) ?_
  refine va_put (D := D) (ci := 3) (v := .int 0) (ty := .int) (C := RX3) (T := TX3) (N := 16) hx hb hts (fun _ h => List.mem_cons_of_mem _ (List.mem_append_right _ h)) tyX3 tyX3_ok nmX3 hown hK hP hD hS 0 rfl rfl 15 (by decide) (hts (.fieldLink RX3 38 "MapsByUseModel" "code" "I") (List.mem_of_getElem? (i := 1) (by decide +kernel))) (fun _ h9 => h9) rfl (by decide +kernel) rfl rfl (Nat.le_of_ble_eq_true rfl) dX3_dropMarked_2 (fun H locs hP hD hS => ?_)
  have hP : va_P D vwCl [(yZ, .inr (3, [.ref akZ, .ref avZ, .ref awZ, .ref aoZ, .ref amZ, .ref lkZ, .ref lvZ, .ref luZ, .int (nI npZ), .int iwZ, .int (nI nmZ), .int ilZ, .int irZ, .int iuZ, .int iaZ, .int 0])), (akZ, .inl (I, 200, .inl fZ)), (avZ, .inl (I, 200, .inl gZ)), (amZ, .inl (I, 200, .inl fmZ))] H := hP
  have hD : va_D A [(yZ, .inr (3, [.ref akZ, .ref avZ, .ref awZ, .ref aoZ, .ref amZ, .ref lkZ, .ref lvZ, .ref luZ, .int (nI npZ), .int iwZ, .int (nI nmZ), .int ilZ, .int irZ, .int iuZ, .int iaZ, .int 0])), (akZ, .inl (I, 200, .inl fZ)), (avZ, .inl (I, 200, .inl gZ)), (amZ, .inl (I, 200, .inl fmZ))] := hD
  refine lv_aload_n hx hb dX3_dropMarked_5 rfl (lv_at hl 0 rfl) ?_
  refine va_get (D := D) (ci := 3) (v := .int (nI npZ)) (C := RX3) (T := TX3) (N := 16) hx hb hts (fun _ h => List.mem_cons_of_mem _ (List.mem_append_right _ h)) hown hK hP 0 rfl rfl 8 (by decide) (hts (.fieldLink RX3 41 "MapsByUseModel" "pairs" "I") (List.mem_of_getElem? (i := 2) (by decide +kernel))) (fun _ h9 => h9) rfl dX3_dropMarked_6 ?_
  refine lv_istore_n (lv' := [(1, .int (nI npZ)), (0, .ref yZ)]) hx hb dX3_dropMarked_9 rfl hl (by decide) rfl (fun ls hl => ?_)
  refine lv_aload_n hx hb dX3_dropMarked_10 rfl (lv_at hl 1 rfl) ?_
  refine va_get (D := D) (ci := 3) (v := .int (nI npZ)) (C := RX3) (T := TX3) (N := 16) hx hb hts (fun _ h => List.mem_cons_of_mem _ (List.mem_append_right _ h)) hown hK hP 0 rfl rfl 8 (by decide) (hts (.fieldLink RX3 41 "MapsByUseModel" "pairs" "I") (List.mem_of_getElem? (i := 2) (by decide +kernel))) (fun _ h9 => h9) rfl dX3_dropMarked_11 ?_
  refine lv_iconst (v := 1) hx hb dX3_dropMarked_14 (by decide) ?_
  refine lv_isub hx hb dX3_dropMarked_15 ?_
  refine lv_istore_n (lv' := [(2, .int ((nI npZ) - 1)), (1, .int (nI npZ)), (0, .ref yZ)]) hx hb dX3_dropMarked_16 rfl hl (by decide) rfl (fun ls hl => ?_)
  have loop_17 : ∀ (k_17 : Nat) (iZ : Nat) (n1Z : Nat) (f1Z : Nat → Int32) (g1Z : Nat → Int32) (x_2 : Int32) (ex_2 : x_2 = (nI iZ - 1)) (hi : iZ ≤ n1Z) (hn1 : n1Z ≤ npZ) (hd : dropM (fun k9 _ => (rL fmZ k9 nmZ).isSome) npZ (fZ, gZ, npZ) = dropM (fun k9 _ => (rL fmZ k9 nmZ).isSome) iZ (f1Z, g1Z, n1Z)) (hm_ : iZ < k_17) (H : Heap) (locs : List Loc) (hP : va_P D vwCl [(yZ, .inr (3, [.ref akZ, .ref avZ, .ref awZ, .ref aoZ, .ref amZ, .ref lkZ, .ref lvZ, .ref luZ, .int (nI n1Z), .int iwZ, .int (nI nmZ), .int ilZ, .int irZ, .int iuZ, .int iaZ, .int 0])), (akZ, .inl (I, 200, .inl f1Z)), (avZ, .inl (I, 200, .inl g1Z)), (amZ, .inl (I, 200, .inl fmZ))] H) (hD : va_D A [(yZ, .inr (3, [.ref akZ, .ref avZ, .ref awZ, .ref aoZ, .ref amZ, .ref lkZ, .ref lvZ, .ref luZ, .int (nI n1Z), .int iwZ, .int (nI nmZ), .int ilZ, .int irZ, .int iuZ, .int iaZ, .int 0])), (akZ, .inl (I, 200, .inl f1Z)), (avZ, .inl (I, 200, .inl g1Z)), (amZ, .inl (I, 200, .inl fmZ))]) (hS : va_S A s.heap H locs) (ls : Array Slot) (hl : lv_has ls 3 [(0, .ref yZ), (1, .int (nI npZ)), (2, .int x_2)]), W p l e (mRm 2 45 0 0) s m args below meth c H locs 0 0 (MQ below (va_Qi (fun (x : Int32) (u : Unit) => x = (nI (npZ - (dropM (fun k9 _ => (rL fmZ k9 nmZ).isSome) npZ (fZ, gZ, npZ)).2.2))) (mB D (fun (u : Unit) => [(yZ, .inr (3, [.ref akZ, .ref avZ, .ref awZ, .ref aoZ, .ref amZ, .ref lkZ, .ref lvZ, .ref luZ, .int (nI ((dropM (fun k9 _ => (rL fmZ k9 nmZ).isSome) npZ (fZ, gZ, npZ)).2.2)), .int iwZ, .int (nI nmZ), .int ilZ, .int irZ, .int iuZ, .int iaZ, .int 0])), (akZ, .inl (I, 200, .inl ((dropM (fun k9 _ => (rL fmZ k9 nmZ).isSome) npZ (fZ, gZ, npZ)).1))), (avZ, .inl (I, 200, .inl ((dropM (fun k9 _ => (rL fmZ k9 nmZ).isSome) npZ (fZ, gZ, npZ)).2.1))), (amZ, .inl (I, 200, .inl fmZ))]) A) A) args s 0 0 A) (F0 m 17 ls []) := by
    intro k_17
    induction k_17 with
    | zero => intro iZ n1Z f1Z g1Z x_2 ex_2 hi hn1 hd hm_; exact absurd hm_ (Nat.not_lt_zero _)
    | succ k_17 ih_17 =>
      intro iZ n1Z f1Z g1Z x_2 ex_2 hi hn1 hd hm_ H locs hP hD hS ls hl
      subst ex_2
      refine lv_iload_n hx hb dX3_dropMarked_17 rfl (lv_at hl 2 rfl) ?_
      refine lv_if_lt (tgt := 45) hx hb dX3_dropMarked_18 (by decide) (fun c_18 => ?_) (fun c_18 => ?_)
      · --L1718T
        have ee : iZ = 0 := by
          rcases Nat.eq_zero_or_pos iZ with q | q
          · exact q
          · obtain ⟨jZ, hj9⟩ : ∃ jZ, iZ = jZ + 1 := ⟨iZ - 1, by omega⟩
            rw [hj9, nI_pred] at c_18
            exact absurd c_18 (nI_pos (by omega))
        rw [ee] at hd
        have hd : (dropM (fun k9 _ => (rL fmZ k9 nmZ).isSome) npZ (fZ, gZ, npZ)) = (f1Z, g1Z, n1Z) := hd
        refine lv_iload_n hx hb dX3_dropMarked_45 rfl (lv_at hl 1 rfl) ?_
        refine lv_aload_n hx hb dX3_dropMarked_46 rfl (lv_at hl 0 rfl) ?_
        refine va_get (D := D) (ci := 3) (v := .int (nI n1Z)) (C := RX3) (T := TX3) (N := 16) hx hb hts (fun _ h => List.mem_cons_of_mem _ (List.mem_append_right _ h)) hown hK hP 0 rfl rfl 8 (by decide) (hts (.fieldLink RX3 41 "MapsByUseModel" "pairs" "I") (List.mem_of_getElem? (i := 2) (by decide +kernel))) (fun _ h9 => h9) rfl dX3_dropMarked_47 ?_
        refine lv_isub hx hb dX3_dropMarked_50 ?_
        refine m_topi (y := (nI (npZ - n1Z))) (by exact pk_sub (by omega)) ?_
        have hEq : [(yZ, .inr (3, [.ref akZ, .ref avZ, .ref awZ, .ref aoZ, .ref amZ, .ref lkZ, .ref lvZ, .ref luZ, .int (nI n1Z), .int iwZ, .int (nI nmZ), .int ilZ, .int irZ, .int iuZ, .int iaZ, .int 0])), (akZ, .inl (I, 200, .inl f1Z)), (avZ, .inl (I, 200, .inl g1Z)), (amZ, .inl (I, 200, .inl fmZ))] = ([(yZ, .inr (3, [.ref akZ, .ref avZ, .ref awZ, .ref aoZ, .ref amZ, .ref lkZ, .ref lvZ, .ref luZ, .int (nI ((dropM (fun k9 _ => (rL fmZ k9 nmZ).isSome) npZ (fZ, gZ, npZ)).2.2)), .int iwZ, .int (nI nmZ), .int ilZ, .int irZ, .int iuZ, .int iaZ, .int 0])), (akZ, .inl (I, 200, .inl ((dropM (fun k9 _ => (rL fmZ k9 nmZ).isSome) npZ (fZ, gZ, npZ)).1))), (avZ, .inl (I, 200, .inl ((dropM (fun k9 _ => (rL fmZ k9 nmZ).isSome) npZ (fZ, gZ, npZ)).2.1))), (amZ, .inl (I, 200, .inl fmZ))] : va_W) := (by simp only [hd])
        rw [hEq] at hP hD
        refine m_iret () hx hb hr hlocks hP hD hS dX3_dropMarked_51 (by first | exact Nat.le_of_ble_eq_true rfl | omega) (by first | exact Nat.le_of_ble_eq_true rfl | omega) ?_
        rw [hd]
      · --L1718F
        obtain ⟨iZ, rfl⟩ : ∃ jZ, iZ = jZ + 1 := ⟨iZ - 1, by
          rcases Nat.eq_zero_or_pos iZ with q | q
          · subst q; exact absurd (by decide) c_18
          · omega⟩
        rw [nI_pred] at hl
        refine lv_aload_n hx hb dX3_dropMarked_21 rfl (lv_at hl 0 rfl) ?_
        refine lv_aload_n hx hb dX3_dropMarked_22 rfl (lv_at hl 0 rfl) ?_
        refine va_get (D := D) (ci := 3) (v := .ref akZ) (C := RX3) (T := TX3) (N := 16) hx hb hts (fun _ h => List.mem_cons_of_mem _ (List.mem_append_right _ h)) hown hK hP 0 rfl rfl 0 (by decide) (hts (.fieldLink RX3 7 "MapsByUseModel" "keys" "[I") (List.mem_of_getElem? (i := 3) (by decide +kernel))) (fun _ h9 => h9) rfl dX3_dropMarked_23 ?_
        refine lv_iload_n hx hb dX3_dropMarked_26 rfl (lv_at hl 2 rfl) ?_
        refine m_iald (D := D) (cl := vwCl) hx hb hK hP 1 0 (j := iZ) rfl rfl (by rfl) (by omega) (by omega) dX3_dropMarked_27 ?_
        refine m_Vi (As := [.int (f1Z iZ)]) (wr := [(akZ, .inl (I, 200, .inl f1Z)), (avZ, .inl (I, 200, .inl g1Z))]) (ws2 := fun _ => [(yZ, .inr (3, [.ref akZ, .ref avZ, .ref awZ, .ref aoZ, .ref amZ, .ref lkZ, .ref lvZ, .ref luZ, .int (nI n1Z), .int iwZ, .int (nI nmZ), .int ilZ, .int irZ, .int iuZ, .int iaZ, .int 0])), (akZ, .inl (I, 200, .inl f1Z)), (avZ, .inl (I, 200, .inl g1Z)), (amZ, .inl (I, 200, .inl fmZ))]) ⟨hx, hb, hml, hown, hts⟩ hA hK hP hD hS hl.1 (c_X3_markAt l D I J H.size yZ akZ avZ awZ aoZ amZ lkZ lvZ luZ (nI n1Z) iwZ nmZ ilZ irZ iuZ iaZ 0 fmZ (f1Z iZ) (by omega)) (cwV 1 hts gX3_dropMarked_X3_markAt rfl rfl rfl (by decide +kernel) ⟨Nat.le_of_ble_eq_true rfl, Nat.le_of_ble_eq_true rfl⟩) [0, 3] [1, 2] [2, 0, 1, 3] 0 3 rfl rfl rfl rfl rfl (by decide) (by decide) (by decide) (by decide) (fun _ => rfl) rfl rfl (Nat.le_of_ble_eq_true rfl) dX3_dropMarked_28 ⟨(by exact Nat.le_of_ble_eq_true rfl), (by exact Nat.le_of_ble_eq_true rfl)⟩ (fun r_28 u_28 H locs hw_28 hP hD hS => ?_)
        try dsimp only at hw_28
        have hP : va_P D vwCl [(yZ, .inr (3, [.ref akZ, .ref avZ, .ref awZ, .ref aoZ, .ref amZ, .ref lkZ, .ref lvZ, .ref luZ, .int (nI n1Z), .int iwZ, .int (nI nmZ), .int ilZ, .int irZ, .int iuZ, .int iaZ, .int 0])), (akZ, .inl (I, 200, .inl f1Z)), (avZ, .inl (I, 200, .inl g1Z)), (amZ, .inl (I, 200, .inl fmZ))] H := hP
        have hD : va_D A [(yZ, .inr (3, [.ref akZ, .ref avZ, .ref awZ, .ref aoZ, .ref amZ, .ref lkZ, .ref lvZ, .ref luZ, .int (nI n1Z), .int iwZ, .int (nI nmZ), .int ilZ, .int irZ, .int iuZ, .int iaZ, .int 0])), (akZ, .inl (I, 200, .inl f1Z)), (avZ, .inl (I, 200, .inl g1Z)), (amZ, .inl (I, 200, .inl fmZ))] := hD
        subst hw_28
        refine lv_if_lt (tgt := 39) hx hb dX3_dropMarked_31 (by decide) (fun c_31 => ?_) (fun c_31 => ?_)
        · --L1718F31T
          refine lv_iinc (v := ((nI iZ) + (-1))) (lv' := [(2, .int ((nI iZ) + (-1))), (0, .ref yZ), (1, .int (nI npZ))]) hx hb dX3_dropMarked_39 hl (k := 2) rfl rfl (by decide) rfl (fun ls hl => ?_)
          refine lv_goto (tgt := 17) hx hb dX3_dropMarked_42 (by decide) ?_
          exact ih_17  iZ n1Z f1Z g1Z _ (by exact (Int32.sub_eq_add_neg _ _).symm) (by omega) (by omega) (by exact hd.trans (congrArg (dropM _ iZ) (if_neg (by simp [(iO_neg (rL_lt (by omega))).mp c_31])))) (by omega) _ _ hP hD hS ls (lv_sub hl [1, 2, 0] rfl)
        · --L1718F31F
          refine lv_aload_n hx hb dX3_dropMarked_34 rfl (lv_at hl 0 rfl) ?_
          refine lv_iload_n hx hb dX3_dropMarked_35 rfl (lv_at hl 2 rfl) ?_
          refine m_Vv (As := [.int (nI iZ)]) (wr := [(amZ, .inl (I, 200, .inl fmZ))]) (ws2 := fun _ => [(yZ, .inr (3, [.ref akZ, .ref avZ, .ref awZ, .ref aoZ, .ref amZ, .ref lkZ, .ref lvZ, .ref luZ, .int (nI (n1Z - 1)), .int iwZ, .int (nI nmZ), .int ilZ, .int irZ, .int iuZ, .int iaZ, .int 0])), (akZ, .inl (I, 200, .inl (swF f1Z n1Z iZ))), (avZ, .inl (I, 200, .inl (swF g1Z n1Z iZ))), (amZ, .inl (I, 200, .inl fmZ))]) ⟨hx, hb, hml, hown, hts⟩ hA hK hP hD hS hl.1 (c_X3_drops l D I J H.size yZ akZ avZ awZ aoZ amZ lkZ lvZ luZ n1Z iwZ (nI nmZ) ilZ irZ iuZ iaZ 0 f1Z g1Z iZ (by omega) (by omega)) (cwV 1 hts gX3_dropMarked_X3_drops rfl rfl rfl (by decide +kernel) ⟨Nat.le_of_ble_eq_true rfl, Nat.le_of_ble_eq_true rfl⟩) [0, 1, 2] [3] [1, 2, 3, 0] 0 3 rfl rfl rfl rfl rfl (by decide) (by decide) (by decide) (by decide) (fun _ => rfl) rfl rfl (Nat.le_of_ble_eq_true rfl) dX3_dropMarked_36 ⟨(by exact Nat.le_of_ble_eq_true rfl), (by exact Nat.le_of_ble_eq_true rfl)⟩ (fun u_36 H locs hw_36 hP hD hS => ?_)
          clear hw_36
          have hP : va_P D vwCl [(yZ, .inr (3, [.ref akZ, .ref avZ, .ref awZ, .ref aoZ, .ref amZ, .ref lkZ, .ref lvZ, .ref luZ, .int (nI (n1Z - 1)), .int iwZ, .int (nI nmZ), .int ilZ, .int irZ, .int iuZ, .int iaZ, .int 0])), (akZ, .inl (I, 200, .inl (swF f1Z n1Z iZ))), (avZ, .inl (I, 200, .inl (swF g1Z n1Z iZ))), (amZ, .inl (I, 200, .inl fmZ))] H := hP
          have hD : va_D A [(yZ, .inr (3, [.ref akZ, .ref avZ, .ref awZ, .ref aoZ, .ref amZ, .ref lkZ, .ref lvZ, .ref luZ, .int (nI (n1Z - 1)), .int iwZ, .int (nI nmZ), .int ilZ, .int irZ, .int iuZ, .int iaZ, .int 0])), (akZ, .inl (I, 200, .inl (swF f1Z n1Z iZ))), (avZ, .inl (I, 200, .inl (swF g1Z n1Z iZ))), (amZ, .inl (I, 200, .inl fmZ))] := hD
          refine lv_iinc (v := ((nI iZ) + (-1))) (lv' := [(2, .int ((nI iZ) + (-1))), (0, .ref yZ), (1, .int (nI npZ))]) hx hb dX3_dropMarked_39 hl (k := 2) rfl rfl (by decide) rfl (fun ls hl => ?_)
          refine lv_goto (tgt := 17) hx hb dX3_dropMarked_42 (by decide) ?_
          exact ih_17  iZ (n1Z - 1) (swF f1Z n1Z iZ) (swF g1Z n1Z iZ) _ (by exact (Int32.sub_eq_add_neg _ _).symm) (by omega) (by omega) (by exact hd.trans (congrArg (dropM _ iZ) (if_pos (by obtain ⟨jZ, ho⟩ := iO_lts c_31; simp [ho])))) (by omega) _ _ hP hD hS ls (lv_sub hl [1, 2, 0] rfl)
  exact loop_17 (npZ + 1) npZ npZ fZ gZ _ (by first | rfl | simp [nI_1, nI_0]) (by exact Nat.le_refl _) (by exact Nat.le_refl _) (by rfl) (by exact Nat.lt_succ_self _) _ _ hP hD hS ls (lv_sub hl [2, 1, 0] rfl)
