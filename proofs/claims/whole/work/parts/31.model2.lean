set_option maxHeartbeats 4000000 in
set_option maxRecDepth 100000 in
theorem c_X3_computeIfPresent (l : Launch) (D : va_G) (I J : ClassId) (sz : Nat) (yZ : Nat) (akZ : Nat) (avZ : Nat) (awZ : Nat) (aoZ : Nat) (amZ : Nat) (lkZ : Nat) (lvZ : Nat) (luZ : Nat) (npZ : Nat) (iwZ : Int32) (imZ : Int32) (ilZ : Int32) (irZ : Int32) (iuZ : Int32) (iaZ : Int32) (icZ : Int32) (fZ : Nat → Int32) (gZ : Nat → Int32) (kZ : Int32) (lessZ : Int32) (hinj : Inj fZ npZ) (hnp : npZ ≤ 200) : mCl l yX3_computeIfPresent wsX3_computeIfPresent 3 68 0 0 D I J [.ref yZ, .int kZ, .int lessZ] [(yZ, .inr (3, [.ref akZ, .ref avZ, .ref awZ, .ref aoZ, .ref amZ, .ref lkZ, .ref lvZ, .ref luZ, .int (nI npZ), .int iwZ, .int imZ, .int ilZ, .int irZ, .int iuZ, .int iaZ, .int icZ])), (akZ, .inl (I, 200, .inl fZ)), (avZ, .inl (I, 200, .inl gZ))] sz (fun (x : Int64) (u : Unit) => x = (cppA gZ lessZ (rL fZ kZ npZ))) (fun (u : Unit) => [(yZ, .inr (3, [.ref akZ, .ref avZ, .ref awZ, .ref aoZ, .ref amZ, .ref lkZ, .ref lvZ, .ref luZ, .int (nI (cppN npZ gZ lessZ (rL fZ kZ npZ))), .int iwZ, .int imZ, .int ilZ, .int irZ, .int iuZ, .int iaZ, .int 0])), (akZ, .inl (I, 200, .inl (mpF fZ npZ gZ lessZ (rL fZ kZ npZ)))), (avZ, .inl (I, 200, .inl (mpG gZ npZ lessZ (rL fZ kZ npZ))))]) := by
  refine m_ofl (cc := cX3_computeIfPresent) (maxL := 4) (ret := (some .long)) (by decide) rfl (Nat.le_of_ble_eq_true rfl) ?_
  intro p e s m args below meth c A ls hx hb hr hlocks hml hts hown hin hK hP hD hA hS hl
  have hl : lv_has ls 4 [(0, .ref yZ), (1, .int kZ), (2, .int lessZ)] := hl
  have hP : va_P D vwCl [(yZ, .inr (3, [.ref akZ, .ref avZ, .ref awZ, .ref aoZ, .ref amZ, .ref lkZ, .ref lvZ, .ref luZ, .int (nI npZ), .int iwZ, .int imZ, .int ilZ, .int irZ, .int iuZ, .int iaZ, .int icZ])), (akZ, .inl (I, 200, .inl fZ)), (avZ, .inl (I, 200, .inl gZ))] s.heap := hP
  have hD : va_D A [(yZ, .inr (3, [.ref akZ, .ref avZ, .ref awZ, .ref aoZ, .ref amZ, .ref lkZ, .ref lvZ, .ref luZ, .int (nI npZ), .int iwZ, .int imZ, .int ilZ, .int irZ, .int iuZ, .int iaZ, .int icZ])), (akZ, .inl (I, 200, .inl fZ)), (avZ, .inl (I, 200, .inl gZ))] := hD
  refine lv_aload_n hx hb dX3_computeIfPresent_0 rfl (lv_at hl 0 rfl) ?_
  refine lv_iconst (v := 0) hx hb dX3_computeIfPresent_1 (by decide) ?_
  refine va_put (D := D) (ci := 3) (v := .int 0) (ty := .int) (C := RX3) (T := TX3) (N := 16) hx hb hts (fun _ h => List.mem_cons_of_mem _ (List.mem_append_right _ h)) tyX3 tyX3_ok nmX3 hown hK hP hD hS 0 rfl rfl 15 (by decide) (hts (.fieldLink RX3 38 "MapsByUseModel" "code" "I") (List.mem_of_getElem? (i := 1) (by decide +kernel))) (fun _ h9 => h9) rfl (by decide +kernel) rfl rfl (Nat.le_of_ble_eq_true rfl) dX3_computeIfPresent_2 (fun H locs hP hD hS => ?_)
  have hP : va_P D vwCl [(yZ, .inr (3, [.ref akZ, .ref avZ, .ref awZ, .ref aoZ, .ref amZ, .ref lkZ, .ref lvZ, .ref luZ, .int (nI npZ), .int iwZ, .int imZ, .int ilZ, .int irZ, .int iuZ, .int iaZ, .int 0])), (akZ, .inl (I, 200, .inl fZ)), (avZ, .inl (I, 200, .inl gZ))] H := hP
  have hD : va_D A [(yZ, .inr (3, [.ref akZ, .ref avZ, .ref awZ, .ref aoZ, .ref amZ, .ref lkZ, .ref lvZ, .ref luZ, .int (nI npZ), .int iwZ, .int imZ, .int ilZ, .int irZ, .int iuZ, .int iaZ, .int 0])), (akZ, .inl (I, 200, .inl fZ)), (avZ, .inl (I, 200, .inl gZ))] := hD
  refine lv_aload_n hx hb dX3_computeIfPresent_5 rfl (lv_at hl 0 rfl) ?_
  refine lv_iload_n hx hb dX3_computeIfPresent_6 rfl (lv_at hl 1 rfl) ?_
  refine m_Vi (As := [.int kZ]) (wr := [(avZ, .inl (I, 200, .inl gZ))]) (ws2 := fun _ => [(yZ, .inr (3, [.ref akZ, .ref avZ, .ref awZ, .ref aoZ, .ref amZ, .ref lkZ, .ref lvZ, .ref luZ, .int (nI npZ), .int iwZ, .int imZ, .int ilZ, .int irZ, .int iuZ, .int iaZ, .int 0])), (akZ, .inl (I, 200, .inl fZ)), (avZ, .inl (I, 200, .inl gZ))]) ⟨hx, hb, hml, hown, hts⟩ hA hK hP hD hS hl.1 (c_X3_at l D I J H.size yZ akZ avZ awZ aoZ amZ lkZ lvZ luZ npZ iwZ imZ ilZ irZ iuZ iaZ 0 fZ kZ (by omega)) (cwV 1 hts gX3_computeIfPresent_X3_at rfl rfl rfl (by decide +kernel) ⟨Nat.le_of_ble_eq_true rfl, Nat.le_of_ble_eq_true rfl⟩) [0, 1] [2] [1, 2, 0] 0 3 rfl rfl rfl rfl rfl (by decide) (by decide) (by decide) (by decide) (fun _ => rfl) rfl rfl (Nat.le_of_ble_eq_true rfl) dX3_computeIfPresent_7 ⟨(by exact Nat.le_of_ble_eq_true rfl), (by exact Nat.le_of_ble_eq_true rfl)⟩ (fun r_7 u_7 H locs hw_7 hP hD hS => ?_)
  try dsimp only at hw_7
  have hP : va_P D vwCl [(yZ, .inr (3, [.ref akZ, .ref avZ, .ref awZ, .ref aoZ, .ref amZ, .ref lkZ, .ref lvZ, .ref luZ, .int (nI npZ), .int iwZ, .int imZ, .int ilZ, .int irZ, .int iuZ, .int iaZ, .int 0])), (akZ, .inl (I, 200, .inl fZ)), (avZ, .inl (I, 200, .inl gZ))] H := hP
  have hD : va_D A [(yZ, .inr (3, [.ref akZ, .ref avZ, .ref awZ, .ref aoZ, .ref amZ, .ref lkZ, .ref lvZ, .ref luZ, .int (nI npZ), .int iwZ, .int imZ, .int ilZ, .int irZ, .int iuZ, .int iaZ, .int 0])), (akZ, .inl (I, 200, .inl fZ)), (avZ, .inl (I, 200, .inl gZ))] := hD
  subst hw_7
  refine lv_if_ge (tgt := 17) hx hb dX3_computeIfPresent_10 (by decide) (fun c_10 => ?_) (fun c_10 => ?_)
  · --10T
    obtain ⟨jZ, ho⟩ := iO_ges c_10
    have hj := (rL_some ho).1
    refine lv_iconst (v := 2) hx hb dX3_computeIfPresent_17 (by decide) ?_
    refine lv_aload_n hx hb dX3_computeIfPresent_18 rfl (lv_at hl 0 rfl) ?_
    refine va_get (D := D) (ci := 3) (v := .ref avZ) (C := RX3) (T := TX3) (N := 16) hx hb hts (fun _ h => List.mem_cons_of_mem _ (List.mem_append_right _ h)) hown hK hP 0 rfl rfl 1 (by decide) (hts (.fieldLink RX3 13 "MapsByUseModel" "values" "[I") (List.mem_of_getElem? (i := 3) (by decide +kernel))) (fun _ h9 => h9) rfl dX3_computeIfPresent_19 ?_
    refine lv_aload_n hx hb dX3_computeIfPresent_22 rfl (lv_at hl 0 rfl) ?_
    refine lv_iload_n hx hb dX3_computeIfPresent_23 rfl (lv_at hl 1 rfl) ?_
    refine m_Vi (As := [.int kZ]) (wr := [(avZ, .inl (I, 200, .inl gZ))]) (ws2 := fun _ => [(yZ, .inr (3, [.ref akZ, .ref avZ, .ref awZ, .ref aoZ, .ref amZ, .ref lkZ, .ref lvZ, .ref luZ, .int (nI npZ), .int iwZ, .int imZ, .int ilZ, .int irZ, .int iuZ, .int iaZ, .int 0])), (akZ, .inl (I, 200, .inl fZ)), (avZ, .inl (I, 200, .inl gZ))]) ⟨hx, hb, hml, hown, hts⟩ hA hK hP hD hS hl.1 (c_X3_at l D I J H.size yZ akZ avZ awZ aoZ amZ lkZ lvZ luZ npZ iwZ imZ ilZ irZ iuZ iaZ 0 fZ kZ (by omega)) (cwV 1 hts gX3_computeIfPresent_X3_at rfl rfl rfl (by decide +kernel) ⟨Nat.le_of_ble_eq_true rfl, Nat.le_of_ble_eq_true rfl⟩) [0, 1] [2] [1, 2, 0] 0 3 rfl rfl rfl rfl rfl (by decide) (by decide) (by decide) (by decide) (fun _ => rfl) rfl rfl (Nat.le_of_ble_eq_true rfl) dX3_computeIfPresent_24 ⟨(by exact Nat.le_of_ble_eq_true rfl), (by exact Nat.le_of_ble_eq_true rfl)⟩ (fun r_24 u_24 H locs hw_24 hP hD hS => ?_)
    try dsimp only at hw_24
    have hP : va_P D vwCl [(yZ, .inr (3, [.ref akZ, .ref avZ, .ref awZ, .ref aoZ, .ref amZ, .ref lkZ, .ref lvZ, .ref luZ, .int (nI npZ), .int iwZ, .int imZ, .int ilZ, .int irZ, .int iuZ, .int iaZ, .int 0])), (akZ, .inl (I, 200, .inl fZ)), (avZ, .inl (I, 200, .inl gZ))] H := hP
    have hD : va_D A [(yZ, .inr (3, [.ref akZ, .ref avZ, .ref awZ, .ref aoZ, .ref amZ, .ref lkZ, .ref lvZ, .ref luZ, .int (nI npZ), .int iwZ, .int imZ, .int ilZ, .int irZ, .int iuZ, .int iaZ, .int 0])), (akZ, .inl (I, 200, .inl fZ)), (avZ, .inl (I, 200, .inl gZ))] := hD
    subst hw_24
    refine m_topi (y := (nI jZ)) (by rw [ho]; rfl) ?_
    refine m_iald (D := D) (cl := vwCl) hx hb hK hP 2 0 (j := jZ) rfl rfl (by rfl) (by omega) (by omega) dX3_computeIfPresent_27 ?_
    refine lv_imul hx hb dX3_computeIfPresent_28 ?_
    refine m_topi (y := (2 * gZ jZ)) (by rfl) ?_
    refine lv_iload_n hx hb dX3_computeIfPresent_29 rfl (lv_at hl 2 rfl) ?_
    refine lv_isub hx hb dX3_computeIfPresent_30 ?_
    refine m_topi (y := (2 * gZ jZ - lessZ)) (by rfl) ?_
    refine lv_istore_n (lv' := [(3, .int (2 * gZ jZ - lessZ)), (0, .ref yZ), (1, .int kZ), (2, .int lessZ)]) hx hb dX3_computeIfPresent_31 rfl hl (by decide) rfl (fun ls hl => ?_)
    refine lv_iload_n hx hb dX3_computeIfPresent_32 rfl (lv_at hl 0 rfl) ?_
    refine lv_bipush (v := 10) hx hb dX3_computeIfPresent_33 (by decide) ?_
    refine lv_irem hx hb dX3_computeIfPresent_35 (by decide) ?_
    refine m_topi (y := (2 * gZ jZ - lessZ - (2 * gZ jZ - lessZ) / 10 * 10)) (by rfl) ?_
    refine lv_if_ne (tgt := 51) hx hb dX3_computeIfPresent_36 (by decide) (fun c_36 => ?_) (fun c_36 => ?_)
    · --10T36T
      refine lv_aload_n hx hb dX3_computeIfPresent_51 rfl (lv_at hl 1 rfl) ?_
      refine lv_iload_n hx hb dX3_computeIfPresent_52 rfl (lv_at hl 2 rfl) ?_
      refine lv_iload_n hx hb dX3_computeIfPresent_53 rfl (lv_at hl 0 rfl) ?_
      refine m_Vv (As := [.int kZ, .int (2 * gZ jZ - lessZ)]) (wr := []) (ws2 := fun _ => [(yZ, .inr (3, [.ref akZ, .ref avZ, .ref awZ, .ref aoZ, .ref amZ, .ref lkZ, .ref lvZ, .ref luZ, .int (nI (insN npZ (rL fZ kZ npZ))), .int iwZ, .int imZ, .int ilZ, .int irZ, .int iuZ, .int iaZ, .int 0])), (akZ, .inl (I, 200, .inl (insF fZ npZ kZ (rL fZ kZ npZ)))), (avZ, .inl (I, 200, .inl (insG gZ npZ (2 * gZ jZ - lessZ) (rL fZ kZ npZ))))]) ⟨hx, hb, hml, hown, hts⟩ hA hK hP hD hS hl.1 (c_X3_lays l D I J H.size yZ akZ avZ awZ aoZ amZ lkZ lvZ luZ npZ iwZ imZ ilZ irZ iuZ iaZ 0 fZ gZ kZ (2 * gZ jZ - lessZ) (by rw [ho]; intro q9; cases q9) (by omega)) (cwV 2 hts gX3_computeIfPresent_X3_lays rfl rfl rfl (by decide +kernel) ⟨Nat.le_of_ble_eq_true rfl, Nat.le_of_ble_eq_true rfl⟩) [0, 1, 2] [] [0, 1, 2] 0 3 rfl rfl rfl rfl rfl (by decide) (by decide) (by decide) (by decide) (fun _ => rfl) rfl rfl (Nat.le_of_ble_eq_true rfl) dX3_computeIfPresent_54 ⟨(by exact Nat.le_of_ble_eq_true rfl), (by exact Nat.le_of_ble_eq_true rfl)⟩ (fun u_54 H locs hw_54 hP hD hS => ?_)
      clear hw_54
      have hP : va_P D vwCl [(yZ, .inr (3, [.ref akZ, .ref avZ, .ref awZ, .ref aoZ, .ref amZ, .ref lkZ, .ref lvZ, .ref luZ, .int (nI (insN npZ (rL fZ kZ npZ))), .int iwZ, .int imZ, .int ilZ, .int irZ, .int iuZ, .int iaZ, .int 0])), (akZ, .inl (I, 200, .inl (insF fZ npZ kZ (rL fZ kZ npZ)))), (avZ, .inl (I, 200, .inl (insG gZ npZ (2 * gZ jZ - lessZ) (rL fZ kZ npZ))))] H := hP
      have hD : va_D A [(yZ, .inr (3, [.ref akZ, .ref avZ, .ref awZ, .ref aoZ, .ref amZ, .ref lkZ, .ref lvZ, .ref luZ, .int (nI (insN npZ (rL fZ kZ npZ))), .int iwZ, .int imZ, .int ilZ, .int irZ, .int iuZ, .int iaZ, .int 0])), (akZ, .inl (I, 200, .inl (insF fZ npZ kZ (rL fZ kZ npZ)))), (avZ, .inl (I, 200, .inl (insG gZ npZ (2 * gZ jZ - lessZ) (rL fZ kZ npZ))))] := hD
      have hz : ¬ 2 * gZ jZ - lessZ - (2 * gZ jZ - lessZ) / 10 * 10 = 0 := c_36
      rw [ho] at hP hD
      have hP : va_P D vwCl [(yZ, .inr (3, [.ref akZ, .ref avZ, .ref awZ, .ref aoZ, .ref amZ, .ref lkZ, .ref lvZ, .ref luZ, .int (nI npZ), .int iwZ, .int imZ, .int ilZ, .int irZ, .int iuZ, .int iaZ, .int 0])), (akZ, .inl (I, 200, .inl fZ)), (avZ, .inl (I, 200, .inl (upd gZ jZ (2 * gZ jZ - lessZ))))] H := hP
      have hD : va_D A [(yZ, .inr (3, [.ref akZ, .ref avZ, .ref awZ, .ref aoZ, .ref amZ, .ref lkZ, .ref lvZ, .ref luZ, .int (nI npZ), .int iwZ, .int imZ, .int ilZ, .int irZ, .int iuZ, .int iaZ, .int 0])), (akZ, .inl (I, 200, .inl fZ)), (avZ, .inl (I, 200, .inl (upd gZ jZ (2 * gZ jZ - lessZ))))] := hD
      refine lv_aload_n hx hb dX3_computeIfPresent_57 rfl (lv_at hl 1 rfl) ?_
      refine lv_iload_n hx hb dX3_computeIfPresent_58 rfl (lv_at hl 2 rfl) ?_
      refine m_Vl (As := [.int kZ]) (wr := []) (ws2 := fun _ => [(yZ, .inr (3, [.ref akZ, .ref avZ, .ref awZ, .ref aoZ, .ref amZ, .ref lkZ, .ref lvZ, .ref luZ, .int (nI npZ), .int iwZ, .int imZ, .int ilZ, .int irZ, .int iuZ, .int iaZ, .int 0])), (akZ, .inl (I, 200, .inl fZ)), (avZ, .inl (I, 200, .inl (upd gZ jZ (2 * gZ jZ - lessZ))))]) ⟨hx, hb, hml, hown, hts⟩ hA hK hP hD hS hl.1 (c_X3_now l D I J H.size yZ akZ avZ awZ aoZ amZ lkZ lvZ luZ npZ iwZ imZ ilZ irZ iuZ iaZ 0 fZ (upd gZ jZ (2 * gZ jZ - lessZ)) kZ (by omega)) (cwV 1 hts gX3_computeIfPresent_X3_now rfl rfl rfl (by decide +kernel) ⟨Nat.le_of_ble_eq_true rfl, Nat.le_of_ble_eq_true rfl⟩) [0, 1, 2] [] [0, 1, 2] 0 3 rfl rfl rfl rfl rfl (by decide) (by decide) (by decide) (by decide) (fun _ => rfl) rfl rfl (Nat.le_of_ble_eq_true rfl) dX3_computeIfPresent_59 ⟨(by exact Nat.le_of_ble_eq_true rfl), (by exact Nat.le_of_ble_eq_true rfl)⟩ (fun r_59 u_59 H locs hw_59 hP hD hS => ?_)
      try dsimp only at hw_59
      have hP : va_P D vwCl [(yZ, .inr (3, [.ref akZ, .ref avZ, .ref awZ, .ref aoZ, .ref amZ, .ref lkZ, .ref lvZ, .ref luZ, .int (nI npZ), .int iwZ, .int imZ, .int ilZ, .int irZ, .int iuZ, .int iaZ, .int 0])), (akZ, .inl (I, 200, .inl fZ)), (avZ, .inl (I, 200, .inl (upd gZ jZ (2 * gZ jZ - lessZ))))] H := hP
      have hD : va_D A [(yZ, .inr (3, [.ref akZ, .ref avZ, .ref awZ, .ref aoZ, .ref amZ, .ref lkZ, .ref lvZ, .ref luZ, .int (nI npZ), .int iwZ, .int imZ, .int ilZ, .int irZ, .int iuZ, .int iaZ, .int 0])), (akZ, .inl (I, 200, .inl fZ)), (avZ, .inl (I, 200, .inl (upd gZ jZ (2 * gZ jZ - lessZ))))] := hD
      subst hw_59
      refine m_topl (y := ((2 * gZ jZ - lessZ).toInt64)) (by rw [ho]; show (upd gZ jZ (2 * gZ jZ - lessZ) jZ).toInt64 = _; rw [upd_at]) ?_
      have hEq : [(yZ, .inr (3, [.ref akZ, .ref avZ, .ref awZ, .ref aoZ, .ref amZ, .ref lkZ, .ref lvZ, .ref luZ, .int (nI npZ), .int iwZ, .int imZ, .int ilZ, .int irZ, .int iuZ, .int iaZ, .int 0])), (akZ, .inl (I, 200, .inl fZ)), (avZ, .inl (I, 200, .inl (upd gZ jZ (2 * gZ jZ - lessZ))))] = ([(yZ, .inr (3, [.ref akZ, .ref avZ, .ref awZ, .ref aoZ, .ref amZ, .ref lkZ, .ref lvZ, .ref luZ, .int (nI (cppN npZ gZ lessZ (rL fZ kZ npZ))), .int iwZ, .int imZ, .int ilZ, .int irZ, .int iuZ, .int iaZ, .int 0])), (akZ, .inl (I, 200, .inl (mpF fZ npZ gZ lessZ (rL fZ kZ npZ)))), (avZ, .inl (I, 200, .inl (mpG gZ npZ lessZ (rL fZ kZ npZ))))] : va_W) := (by rw [ho]; simp [cppN, mpF, mpG, hz])
      rw [hEq] at hP hD
      refine m_lret () hx hb hr hlocks hP hD hS dX3_computeIfPresent_62 (by first | exact Nat.le_of_ble_eq_true rfl | omega) (by first | exact Nat.le_of_ble_eq_true rfl | omega) ?_
      rw [ho]; simp [cppA, hz]
    · --10T36F
      refine lv_aload_n hx hb dX3_computeIfPresent_39 rfl (lv_at hl 1 rfl) ?_
      refine lv_aload_n hx hb dX3_computeIfPresent_40 rfl (lv_at hl 1 rfl) ?_
      refine lv_iload_n hx hb dX3_computeIfPresent_41 rfl (lv_at hl 2 rfl) ?_
      refine m_Vi (As := [.int kZ]) (wr := [(avZ, .inl (I, 200, .inl gZ))]) (ws2 := fun _ => [(yZ, .inr (3, [.ref akZ, .ref avZ, .ref awZ, .ref aoZ, .ref amZ, .ref lkZ, .ref lvZ, .ref luZ, .int (nI npZ), .int iwZ, .int imZ, .int ilZ, .int irZ, .int iuZ, .int iaZ, .int 0])), (akZ, .inl (I, 200, .inl fZ)), (avZ, .inl (I, 200, .inl gZ))]) ⟨hx, hb, hml, hown, hts⟩ hA hK hP hD hS hl.1 (c_X3_at l D I J H.size yZ akZ avZ awZ aoZ amZ lkZ lvZ luZ npZ iwZ imZ ilZ irZ iuZ iaZ 0 fZ kZ (by omega)) (cwV 1 hts gX3_computeIfPresent_X3_at rfl rfl rfl (by decide +kernel) ⟨Nat.le_of_ble_eq_true rfl, Nat.le_of_ble_eq_true rfl⟩) [0, 1] [2] [1, 2, 0] 0 3 rfl rfl rfl rfl rfl (by decide) (by decide) (by decide) (by decide) (fun _ => rfl) rfl rfl (Nat.le_of_ble_eq_true rfl) dX3_computeIfPresent_42 ⟨(by exact Nat.le_of_ble_eq_true rfl), (by exact Nat.le_of_ble_eq_true rfl)⟩ (fun r_42 u_42 H locs hw_42 hP hD hS => ?_)
      try dsimp only at hw_42
      have hP : va_P D vwCl [(yZ, .inr (3, [.ref akZ, .ref avZ, .ref awZ, .ref aoZ, .ref amZ, .ref lkZ, .ref lvZ, .ref luZ, .int (nI npZ), .int iwZ, .int imZ, .int ilZ, .int irZ, .int iuZ, .int iaZ, .int 0])), (akZ, .inl (I, 200, .inl fZ)), (avZ, .inl (I, 200, .inl gZ))] H := hP
      have hD : va_D A [(yZ, .inr (3, [.ref akZ, .ref avZ, .ref awZ, .ref aoZ, .ref amZ, .ref lkZ, .ref lvZ, .ref luZ, .int (nI npZ), .int iwZ, .int imZ, .int ilZ, .int irZ, .int iuZ, .int iaZ, .int 0])), (akZ, .inl (I, 200, .inl fZ)), (avZ, .inl (I, 200, .inl gZ))] := hD
      subst hw_42
      refine m_topi (y := (nI jZ)) (by rw [ho]; rfl) ?_
      refine m_Vv (As := [.int (nI jZ)]) (wr := []) (ws2 := fun _ => [(yZ, .inr (3, [.ref akZ, .ref avZ, .ref awZ, .ref aoZ, .ref amZ, .ref lkZ, .ref lvZ, .ref luZ, .int (nI (npZ - 1)), .int iwZ, .int imZ, .int ilZ, .int irZ, .int iuZ, .int iaZ, .int 0])), (akZ, .inl (I, 200, .inl (swF fZ npZ jZ))), (avZ, .inl (I, 200, .inl (swF gZ npZ jZ)))]) ⟨hx, hb, hml, hown, hts⟩ hA hK hP hD hS hl.1 (c_X3_drops l D I J H.size yZ akZ avZ awZ aoZ amZ lkZ lvZ luZ npZ iwZ imZ ilZ irZ iuZ iaZ 0 fZ gZ jZ (by assumption) (by omega)) (cwV 1 hts gX3_computeIfPresent_X3_drops rfl rfl rfl (by decide +kernel) ⟨Nat.le_of_ble_eq_true rfl, Nat.le_of_ble_eq_true rfl⟩) [0, 1, 2] [] [0, 1, 2] 0 3 rfl rfl rfl rfl rfl (by decide) (by decide) (by decide) (by decide) (fun _ => rfl) rfl rfl (Nat.le_of_ble_eq_true rfl) dX3_computeIfPresent_45 ⟨(by exact Nat.le_of_ble_eq_true rfl), (by exact Nat.le_of_ble_eq_true rfl)⟩ (fun u_45 H locs hw_45 hP hD hS => ?_)
      clear hw_45
      have hP : va_P D vwCl [(yZ, .inr (3, [.ref akZ, .ref avZ, .ref awZ, .ref aoZ, .ref amZ, .ref lkZ, .ref lvZ, .ref luZ, .int (nI (npZ - 1)), .int iwZ, .int imZ, .int ilZ, .int irZ, .int iuZ, .int iaZ, .int 0])), (akZ, .inl (I, 200, .inl (swF fZ npZ jZ))), (avZ, .inl (I, 200, .inl (swF gZ npZ jZ)))] H := hP
      have hD : va_D A [(yZ, .inr (3, [.ref akZ, .ref avZ, .ref awZ, .ref aoZ, .ref amZ, .ref lkZ, .ref lvZ, .ref luZ, .int (nI (npZ - 1)), .int iwZ, .int imZ, .int ilZ, .int irZ, .int iuZ, .int iaZ, .int 0])), (akZ, .inl (I, 200, .inl (swF fZ npZ jZ))), (avZ, .inl (I, 200, .inl (swF gZ npZ jZ)))] := hD
      refine lv_goto (tgt := 57) hx hb dX3_computeIfPresent_48 (by decide) ?_
      have hz : 2 * gZ jZ - lessZ - (2 * gZ jZ - lessZ) / 10 * 10 = 0 := c_36
      have hsw := sw_none hinj ho
      refine lv_aload_n hx hb dX3_computeIfPresent_57 rfl (lv_at hl 1 rfl) ?_
      refine lv_iload_n hx hb dX3_computeIfPresent_58 rfl (lv_at hl 2 rfl) ?_
      refine m_Vl (As := [.int kZ]) (wr := []) (ws2 := fun _ => [(yZ, .inr (3, [.ref akZ, .ref avZ, .ref awZ, .ref aoZ, .ref amZ, .ref lkZ, .ref lvZ, .ref luZ, .int (nI (npZ - 1)), .int iwZ, .int imZ, .int ilZ, .int irZ, .int iuZ, .int iaZ, .int 0])), (akZ, .inl (I, 200, .inl (swF fZ npZ jZ))), (avZ, .inl (I, 200, .inl (swF gZ npZ jZ)))]) ⟨hx, hb, hml, hown, hts⟩ hA hK hP hD hS hl.1 (c_X3_now l D I J H.size yZ akZ avZ awZ aoZ amZ lkZ lvZ luZ (npZ - 1) iwZ imZ ilZ irZ iuZ iaZ 0 (swF fZ npZ jZ) (swF gZ npZ jZ) kZ (by omega)) (cwV 1 hts gX3_computeIfPresent_X3_now rfl rfl rfl (by decide +kernel) ⟨Nat.le_of_ble_eq_true rfl, Nat.le_of_ble_eq_true rfl⟩) [0, 1, 2] [] [0, 1, 2] 0 3 rfl rfl rfl rfl rfl (by decide) (by decide) (by decide) (by decide) (fun _ => rfl) rfl rfl (Nat.le_of_ble_eq_true rfl) dX3_computeIfPresent_59 ⟨(by exact Nat.le_of_ble_eq_true rfl), (by exact Nat.le_of_ble_eq_true rfl)⟩ (fun r_59 u_59 H locs hw_59 hP hD hS => ?_)
      try dsimp only at hw_59
      have hP : va_P D vwCl [(yZ, .inr (3, [.ref akZ, .ref avZ, .ref awZ, .ref aoZ, .ref amZ, .ref lkZ, .ref lvZ, .ref luZ, .int (nI (npZ - 1)), .int iwZ, .int imZ, .int ilZ, .int irZ, .int iuZ, .int iaZ, .int 0])), (akZ, .inl (I, 200, .inl (swF fZ npZ jZ))), (avZ, .inl (I, 200, .inl (swF gZ npZ jZ)))] H := hP
      have hD : va_D A [(yZ, .inr (3, [.ref akZ, .ref avZ, .ref awZ, .ref aoZ, .ref amZ, .ref lkZ, .ref lvZ, .ref luZ, .int (nI (npZ - 1)), .int iwZ, .int imZ, .int ilZ, .int irZ, .int iuZ, .int iaZ, .int 0])), (akZ, .inl (I, 200, .inl (swF fZ npZ jZ))), (avZ, .inl (I, 200, .inl (swF gZ npZ jZ)))] := hD
      subst hw_59
      refine m_topl (y := 4294967296) (by rw [hsw]; rfl) ?_
      have hEq : [(yZ, .inr (3, [.ref akZ, .ref avZ, .ref awZ, .ref aoZ, .ref amZ, .ref lkZ, .ref lvZ, .ref luZ, .int (nI (npZ - 1)), .int iwZ, .int imZ, .int ilZ, .int irZ, .int iuZ, .int iaZ, .int 0])), (akZ, .inl (I, 200, .inl (swF fZ npZ jZ))), (avZ, .inl (I, 200, .inl (swF gZ npZ jZ)))] = ([(yZ, .inr (3, [.ref akZ, .ref avZ, .ref awZ, .ref aoZ, .ref amZ, .ref lkZ, .ref lvZ, .ref luZ, .int (nI (cppN npZ gZ lessZ (rL fZ kZ npZ))), .int iwZ, .int imZ, .int ilZ, .int irZ, .int iuZ, .int iaZ, .int 0])), (akZ, .inl (I, 200, .inl (mpF fZ npZ gZ lessZ (rL fZ kZ npZ)))), (avZ, .inl (I, 200, .inl (mpG gZ npZ lessZ (rL fZ kZ npZ))))] : va_W) := (by rw [ho]; simp [cppN, mpF, mpG, hz])
      rw [hEq] at hP hD
      refine m_lret () hx hb hr hlocks hP hD hS dX3_computeIfPresent_62 (by first | exact Nat.le_of_ble_eq_true rfl | omega) (by first | exact Nat.le_of_ble_eq_true rfl | omega) ?_
      rw [ho]; simp [cppA, hz]
  · --10F
    have ho : rL fZ kZ npZ = none := iO_ge c_10 (rL_lt (by omega))
    refine lv_ldc2 (v := 4294967296) hx hb hown (hts (.constantLong RX3 52 (4294967296)) (List.mem_of_getElem? (i := 2) (by decide +kernel))) dX3_computeIfPresent_13 ?_
    have hEq : [(yZ, .inr (3, [.ref akZ, .ref avZ, .ref awZ, .ref aoZ, .ref amZ, .ref lkZ, .ref lvZ, .ref luZ, .int (nI npZ), .int iwZ, .int imZ, .int ilZ, .int irZ, .int iuZ, .int iaZ, .int 0])), (akZ, .inl (I, 200, .inl fZ)), (avZ, .inl (I, 200, .inl gZ))] = ([(yZ, .inr (3, [.ref akZ, .ref avZ, .ref awZ, .ref aoZ, .ref amZ, .ref lkZ, .ref lvZ, .ref luZ, .int (nI (cppN npZ gZ lessZ (rL fZ kZ npZ))), .int iwZ, .int imZ, .int ilZ, .int irZ, .int iuZ, .int iaZ, .int 0])), (akZ, .inl (I, 200, .inl (mpF fZ npZ gZ lessZ (rL fZ kZ npZ)))), (avZ, .inl (I, 200, .inl (mpG gZ npZ lessZ (rL fZ kZ npZ))))] : va_W) := (by rw [ho]; rfl)
    rw [hEq] at hP hD
    refine m_lret () hx hb hr hlocks hP hD hS dX3_computeIfPresent_16 (by first | exact Nat.le_of_ble_eq_true rfl | omega) (by first | exact Nat.le_of_ble_eq_true rfl | omega) ?_
    rw [ho]; rfl

set_option maxHeartbeats 4000000 in
set_option maxRecDepth 100000 in
theorem c_X3_lacking (l : Launch) (D : va_G) (I J : ClassId) (sz : Nat) (yZ : Nat) (akZ : Nat) (avZ : Nat) (awZ : Nat) (aoZ : Nat) (amZ : Nat) (lkZ : Nat) (lvZ : Nat) (luZ : Nat) (npZ : Nat) (iwZ : Int32) (imZ : Int32) (ilZ : Int32) (irZ : Int32) (iuZ : Int32) (iaZ : Int32) (icZ : Int32) (fZ : Nat → Int32) (fst0Z : Int32) (stepZ : Int32) (manyZ : Nat) (hmany : manyZ ≤ 64) (hnp : npZ ≤ 200) : mCi l yX3_lacking wsX3_lacking 2 45 0 0 D I J [.ref yZ, .int fst0Z, .int stepZ, .int (nI manyZ)] [(yZ, .inr (3, [.ref akZ, .ref avZ, .ref awZ, .ref aoZ, .ref amZ, .ref lkZ, .ref lvZ, .ref luZ, .int (nI npZ), .int iwZ, .int imZ, .int ilZ, .int irZ, .int iuZ, .int iaZ, .int icZ])), (akZ, .inl (I, 200, .inl fZ))] sz (fun (x : Int32) (u : Unit) => x = (nI (lackN fZ npZ (fillK fst0Z stepZ) manyZ))) (fun (u : Unit) => [(yZ, .inr (3, [.ref akZ, .ref avZ, .ref awZ, .ref aoZ, .ref amZ, .ref lkZ, .ref lvZ, .ref luZ, .int (nI npZ), .int iwZ, .int imZ, .int ilZ, .int irZ, .int iuZ, .int iaZ, .int icZ])), (akZ, .inl (I, 200, .inl fZ))]) := by
  refine m_ofi (cc := cX3_lacking) (maxL := 8) (ret := (some .int)) (by decide) rfl (Nat.le_of_ble_eq_true rfl) ?_
  intro p e s m args below meth c A ls hx hb hr hlocks hml hts hown hin hK hP hD hA hS hl
  have hl : lv_has ls 8 [(0, .ref yZ), (1, .int fst0Z), (2, .int stepZ), (3, .int (nI manyZ))] := hl
  have hP : va_P D vwCl [(yZ, .inr (3, [.ref akZ, .ref avZ, .ref awZ, .ref aoZ, .ref amZ, .ref lkZ, .ref lvZ, .ref luZ, .int (nI npZ), .int iwZ, .int imZ, .int ilZ, .int irZ, .int iuZ, .int iaZ, .int icZ])), (akZ, .inl (I, 200, .inl fZ))] s.heap := hP
  have hD : va_D A [(yZ, .inr (3, [.ref akZ, .ref avZ, .ref awZ, .ref aoZ, .ref amZ, .ref lkZ, .ref lvZ, .ref luZ, .int (nI npZ), .int iwZ, .int imZ, .int ilZ, .int irZ, .int iuZ, .int iaZ, .int icZ])), (akZ, .inl (I, 200, .inl fZ))] := hD
  refine lv_iconst (v := 0) hx hb dX3_lacking_0 (by decide) ?_
  refine lv_istore (lv' := [(4, .int 0), (0, .ref yZ), (1, .int fst0Z), (2, .int stepZ), (3, .int (nI manyZ))]) hx hb dX3_lacking_1 hl (by decide) rfl (fun ls hl => ?_)
  refine lv_iconst (v := 0) hx hb dX3_lacking_3 (by decide) ?_
  refine lv_istore (lv' := [(5, .int 0), (4, .int 0), (0, .ref yZ), (1, .int fst0Z), (2, .int stepZ), (3, .int (nI manyZ))]) hx hb dX3_lacking_4 hl (by decide) rfl (fun ls hl => ?_)
  have loop_6 : ∀ (k_6 : Nat) (kZ : Nat) (x_4 : Int32) (ex_4 : x_4 = (nI (cntP (fun k9 => isN fZ npZ (fillK fst0Z stepZ) k9 k9) kZ))) (x_5 : Int32) (ex_5 : x_5 = (nI kZ)) (hk : kZ ≤ manyZ) (hm_ : manyZ - kZ < k_6) (H : Heap) (locs : List Loc) (hP : va_P D vwCl [(yZ, .inr (3, [.ref akZ, .ref avZ, .ref awZ, .ref aoZ, .ref amZ, .ref lkZ, .ref lvZ, .ref luZ, .int (nI npZ), .int iwZ, .int imZ, .int ilZ, .int irZ, .int iuZ, .int iaZ, .int icZ])), (akZ, .inl (I, 200, .inl fZ))] H) (hD : va_D A [(yZ, .inr (3, [.ref akZ, .ref avZ, .ref awZ, .ref aoZ, .ref amZ, .ref lkZ, .ref lvZ, .ref luZ, .int (nI npZ), .int iwZ, .int imZ, .int ilZ, .int irZ, .int iuZ, .int iaZ, .int icZ])), (akZ, .inl (I, 200, .inl fZ))]) (hS : va_S A s.heap H locs) (ls : Array Slot) (hl : lv_has ls 8 [(0, .ref yZ), (1, .int fst0Z), (2, .int stepZ), (3, .int (nI manyZ)), (4, .int x_4), (5, .int x_5)]), W p l e (mRm 2 45 0 0) s m args below meth c H locs 0 0 (MQ below (va_Qi (fun (x : Int32) (u : Unit) => x = (nI (lackN fZ npZ (fillK fst0Z stepZ) manyZ))) (mB D (fun (u : Unit) => [(yZ, .inr (3, [.ref akZ, .ref avZ, .ref awZ, .ref aoZ, .ref amZ, .ref lkZ, .ref lvZ, .ref luZ, .int (nI npZ), .int iwZ, .int imZ, .int ilZ, .int irZ, .int iuZ, .int iaZ, .int icZ])), (akZ, .inl (I, 200, .inl fZ))]) A) A) args s 0 0 A) (F0 m 6 ls []) := by
    intro k_6
    induction k_6 with
    | zero => intro kZ x_4 ex_4 x_5 ex_5 hk hm_; exact absurd hm_ (Nat.not_lt_zero _)
    | succ k_6 ih_6 =>
      intro kZ x_4 ex_4 x_5 ex_5 hk hm_ H locs hP hD hS ls hl
      subst ex_4
      subst ex_5
      refine lv_iload hx hb dX3_lacking_6 (lv_at hl 5 rfl) ?_
      refine lv_iload_n hx hb dX3_lacking_8 rfl (lv_at hl 3 rfl) ?_
      refine lv_icmp_ge (tgt := 94) hx hb dX3_lacking_9 (by decide) (fun c_9 => ?_) (fun c_9 => ?_)
      · --L69T
        have qz := (nI_leI (by omega) (by omega)).mp c_9
        have ee : kZ = manyZ := by omega
        refine lv_iload hx hb dX3_lacking_94 (lv_at hl 4 rfl) ?_
        refine m_iret () hx hb hr hlocks hP hD hS dX3_lacking_96 (by first | exact Nat.le_of_ble_eq_true rfl | omega) (by first | exact Nat.le_of_ble_eq_true rfl | omega) ?_
        rw [ee]; rfl
      · --L69F
        have hlt : kZ < manyZ := by
          rcases Nat.lt_or_ge kZ manyZ with q | q
          · exact q
          · exact absurd ((nI_leI (by omega) (by omega)).mpr q) c_9
        refine lv_aload_n hx hb dX3_lacking_12 rfl (lv_at hl 0 rfl) ?_
        refine lv_iload_n hx hb dX3_lacking_13 rfl (lv_at hl 1 rfl) ?_
        refine lv_iload hx hb dX3_lacking_14 (lv_at hl 5 rfl) ?_
        refine lv_iload_n hx hb dX3_lacking_16 rfl (lv_at hl 2 rfl) ?_
        refine lv_imul hx hb dX3_lacking_17 ?_
        refine lv_iadd hx hb dX3_lacking_18 ?_
        refine m_topi (y := (fillK fst0Z stepZ kZ)) (by rfl) ?_
        refine m_Vi (As := [.int (fillK fst0Z stepZ kZ)]) (wr := []) (ws2 := fun _ => [(yZ, .inr (3, [.ref akZ, .ref avZ, .ref awZ, .ref aoZ, .ref amZ, .ref lkZ, .ref lvZ, .ref luZ, .int (nI npZ), .int iwZ, .int imZ, .int ilZ, .int irZ, .int iuZ, .int iaZ, .int icZ])), (akZ, .inl (I, 200, .inl fZ))]) ⟨hx, hb, hml, hown, hts⟩ hA hK hP hD hS hl.1 (c_X3_at l D I J H.size yZ akZ avZ awZ aoZ amZ lkZ lvZ luZ npZ iwZ imZ ilZ irZ iuZ iaZ icZ fZ (fillK fst0Z stepZ kZ) (by omega)) (cwV 1 hts gX3_lacking_X3_at rfl rfl rfl (by decide +kernel) ⟨Nat.le_of_ble_eq_true rfl, Nat.le_of_ble_eq_true rfl⟩) [0, 1] [] [0, 1] 0 3 rfl rfl rfl rfl rfl (by decide) (by decide) (by decide) (by decide) (fun _ => rfl) rfl rfl (Nat.le_of_ble_eq_true rfl) dX3_lacking_19 ⟨(by exact Nat.le_of_ble_eq_true rfl), (by exact Nat.le_of_ble_eq_true rfl)⟩ (fun r_19 u_19 H locs hw_19 hP hD hS => ?_)
        try dsimp only at hw_19
        have hP : va_P D vwCl [(yZ, .inr (3, [.ref akZ, .ref avZ, .ref awZ, .ref aoZ, .ref amZ, .ref lkZ, .ref lvZ, .ref luZ, .int (nI npZ), .int iwZ, .int imZ, .int ilZ, .int irZ, .int iuZ, .int iaZ, .int icZ])), (akZ, .inl (I, 200, .inl fZ))] H := hP
        have hD : va_D A [(yZ, .inr (3, [.ref akZ, .ref avZ, .ref awZ, .ref aoZ, .ref amZ, .ref lkZ, .ref lvZ, .ref luZ, .int (nI npZ), .int iwZ, .int imZ, .int ilZ, .int irZ, .int iuZ, .int iaZ, .int icZ])), (akZ, .inl (I, 200, .inl fZ))] := hD
        subst hw_19
        refine lv_if_ge (tgt := 29) hx hb dX3_lacking_22 (by decide) (fun c_22 => ?_) (fun c_22 => ?_)
        · --L69F22T
          refine lv_iconst (v := 0) hx hb dX3_lacking_29 (by decide) ?_
          refine m_topi (y := (bI (isN fZ npZ (fillK fst0Z stepZ) kZ 0))) (by obtain ⟨jZ, ho⟩ := iO_ges c_22; show _ = bI (!_); rw [ho]; rfl) ?_
          refine lv_istore (lv' := [(6, .int (bI (isN fZ npZ (fillK fst0Z stepZ) kZ 0))), (0, .ref yZ), (1, .int fst0Z), (2, .int stepZ), (3, .int (nI manyZ)), (4, .int (nI (cntP (fun k9 => isN fZ npZ (fillK fst0Z stepZ) k9 k9) kZ))), (5, .int (nI kZ))]) hx hb dX3_lacking_30 hl (by decide) rfl (fun ls hl => ?_)
          refine lv_iconst (v := 0) hx hb dX3_lacking_32 (by decide) ?_
          refine lv_istore (lv' := [(7, .int 0), (6, .int (bI (isN fZ npZ (fillK fst0Z stepZ) kZ 0))), (0, .ref yZ), (1, .int fst0Z), (2, .int stepZ), (3, .int (nI manyZ)), (4, .int (nI (cntP (fun k9 => isN fZ npZ (fillK fst0Z stepZ) k9 k9) kZ))), (5, .int (nI kZ))]) hx hb dX3_lacking_33 hl (by decide) rfl (fun ls hl => ?_)
          have loop_35 : ∀ (k_35 : Nat) (iZ : Nat) (x_6 : Int32) (ex_6 : x_6 = (bI (isN fZ npZ (fillK fst0Z stepZ) kZ iZ))) (x_7 : Int32) (ex_7 : x_7 = (nI iZ)) (hi : iZ ≤ kZ) (hm_ : kZ - iZ < k_35) (H : Heap) (locs : List Loc) (hP : va_P D vwCl [(yZ, .inr (3, [.ref akZ, .ref avZ, .ref awZ, .ref aoZ, .ref amZ, .ref lkZ, .ref lvZ, .ref luZ, .int (nI npZ), .int iwZ, .int imZ, .int ilZ, .int irZ, .int iuZ, .int iaZ, .int icZ])), (akZ, .inl (I, 200, .inl fZ))] H) (hD : va_D A [(yZ, .inr (3, [.ref akZ, .ref avZ, .ref awZ, .ref aoZ, .ref amZ, .ref lkZ, .ref lvZ, .ref luZ, .int (nI npZ), .int iwZ, .int imZ, .int ilZ, .int irZ, .int iuZ, .int iaZ, .int icZ])), (akZ, .inl (I, 200, .inl fZ))]) (hS : va_S A s.heap H locs) (ls : Array Slot) (hl : lv_has ls 8 [(0, .ref yZ), (1, .int fst0Z), (2, .int stepZ), (3, .int (nI manyZ)), (4, .int (nI (cntP (fun k9 => isN fZ npZ (fillK fst0Z stepZ) k9 k9) kZ))), (5, .int (nI kZ)), (6, .int x_6), (7, .int x_7)]), W p l e (mRm 2 45 0 0) s m args below meth c H locs 0 0 (MQ below (va_Qi (fun (x : Int32) (u : Unit) => x = (nI (lackN fZ npZ (fillK fst0Z stepZ) manyZ))) (mB D (fun (u : Unit) => [(yZ, .inr (3, [.ref akZ, .ref avZ, .ref awZ, .ref aoZ, .ref amZ, .ref lkZ, .ref lvZ, .ref luZ, .int (nI npZ), .int iwZ, .int imZ, .int ilZ, .int irZ, .int iuZ, .int iaZ, .int icZ])), (akZ, .inl (I, 200, .inl fZ))]) A) A) args s 0 0 A) (F0 m 35 ls []) := by
            intro k_35
            induction k_35 with
            | zero => intro iZ x_6 ex_6 x_7 ex_7 hi hm_; exact absurd hm_ (Nat.not_lt_zero _)
            | succ k_35 ih_35 =>
              intro iZ x_6 ex_6 x_7 ex_7 hi hm_ H locs hP hD hS ls hl
              subst ex_6
              subst ex_7
              refine lv_iload hx hb dX3_lacking_35 (lv_at hl 7 rfl) ?_
              refine lv_iload hx hb dX3_lacking_37 (lv_at hl 5 rfl) ?_
              refine lv_icmp_ge (tgt := 73) hx hb dX3_lacking_39 (by decide) (fun c_39 => ?_) (fun c_39 => ?_)
              · --L69F22TL3539T
                have qz := (nI_leI (by omega) (by omega)).mp c_39
                have ee : iZ = kZ := by omega
                rw [ee] at hl
                refine lv_iload hx hb dX3_lacking_73 (lv_at hl 4 rfl) ?_
                refine lv_iload hx hb dX3_lacking_75 (lv_at hl 6 rfl) ?_
                refine lv_if_eq (tgt := 84) hx hb dX3_lacking_77 (by decide) (fun c_77 => ?_) (fun c_77 => ?_)
                · --L69F22TL3539T77T
                  refine lv_iconst (v := 0) hx hb dX3_lacking_84 (by decide) ?_
                  refine lv_iadd hx hb dX3_lacking_85 ?_
                  refine m_topi (y := (nI (cntP (fun k9 => isN fZ npZ (fillK fst0Z stepZ) k9 k9) (kZ + 1)))) (by rw [cntP_f (q := fun k9 => isN fZ npZ (fillK fst0Z stepZ) k9 k9) (bI0.mp c_77)]; exact Int32.add_zero _) ?_
                  refine lv_istore (lv' := [(4, .int (nI (cntP (fun k9 => isN fZ npZ (fillK fst0Z stepZ) k9 k9) (kZ + 1)))), (0, .ref yZ), (1, .int fst0Z), (2, .int stepZ), (3, .int (nI manyZ)), (5, .int (nI kZ)), (6, .int (bI (isN fZ npZ (fillK fst0Z stepZ) kZ kZ))), (7, .int (nI kZ))]) hx hb dX3_lacking_86 hl (by decide) rfl (fun ls hl => ?_)
                  refine lv_iinc (v := (nI (kZ + 1))) (lv' := [(5, .int (nI (kZ + 1))), (4, .int (nI (cntP (fun k9 => isN fZ npZ (fillK fst0Z stepZ) k9 k9) (kZ + 1)))), (0, .ref yZ), (1, .int fst0Z), (2, .int stepZ), (3, .int (nI manyZ)), (6, .int (bI (isN fZ npZ (fillK fst0Z stepZ) kZ kZ))), (7, .int (nI kZ))]) hx hb dX3_lacking_88 hl (k := 5) rfl (nI_1 _) (by decide) rfl (fun ls hl => ?_)
                  refine lv_goto (tgt := 6) hx hb dX3_lacking_91 (by decide) ?_
                  exact ih_6  (kZ + 1) _ (by rfl) _ (by rfl) (by first | assumption | omega | rfl) (by omega) _ _ hP hD hS ls (lv_sub hl [2, 3, 4, 5, 1, 0] rfl)
                · --L69F22TL3539T77F
                  refine lv_iconst (v := 1) hx hb dX3_lacking_80 (by decide) ?_
                  refine lv_goto (tgt := 85) hx hb dX3_lacking_81 (by decide) ?_
                  refine lv_iadd hx hb dX3_lacking_85 ?_
                  refine m_topi (y := (nI (cntP (fun k9 => isN fZ npZ (fillK fst0Z stepZ) k9 k9) (kZ + 1)))) (by rw [cntP_t (q := fun k9 => isN fZ npZ (fillK fst0Z stepZ) k9 k9) (bI1 c_77)]; exact nI_1 _) ?_
                  refine lv_istore (lv' := [(4, .int (nI (cntP (fun k9 => isN fZ npZ (fillK fst0Z stepZ) k9 k9) (kZ + 1)))), (0, .ref yZ), (1, .int fst0Z), (2, .int stepZ), (3, .int (nI manyZ)), (5, .int (nI kZ)), (6, .int (bI (isN fZ npZ (fillK fst0Z stepZ) kZ kZ))), (7, .int (nI kZ))]) hx hb dX3_lacking_86 hl (by decide) rfl (fun ls hl => ?_)
                  refine lv_iinc (v := (nI (kZ + 1))) (lv' := [(5, .int (nI (kZ + 1))), (4, .int (nI (cntP (fun k9 => isN fZ npZ (fillK fst0Z stepZ) k9 k9) (kZ + 1)))), (0, .ref yZ), (1, .int fst0Z), (2, .int stepZ), (3, .int (nI manyZ)), (6, .int (bI (isN fZ npZ (fillK fst0Z stepZ) kZ kZ))), (7, .int (nI kZ))]) hx hb dX3_lacking_88 hl (k := 5) rfl (nI_1 _) (by decide) rfl (fun ls hl => ?_)
                  refine lv_goto (tgt := 6) hx hb dX3_lacking_91 (by decide) ?_
                  exact ih_6  (kZ + 1) _ (by rfl) _ (by rfl) (by first | assumption | omega | rfl) (by omega) _ _ hP hD hS ls (lv_sub hl [2, 3, 4, 5, 1, 0] rfl)
              · --L69F22TL3539F
                have hli : iZ < kZ := by
                  rcases Nat.lt_or_ge iZ kZ with q | q
                  · exact q
                  · exact absurd ((nI_leI (by omega) (by omega)).mpr q) c_39
                refine lv_iload hx hb dX3_lacking_42 (lv_at hl 6 rfl) ?_
                refine lv_iload_n hx hb dX3_lacking_44 rfl (lv_at hl 1 rfl) ?_
                refine lv_iload hx hb dX3_lacking_45 (lv_at hl 7 rfl) ?_
                refine lv_iload_n hx hb dX3_lacking_47 rfl (lv_at hl 2 rfl) ?_
                refine lv_imul hx hb dX3_lacking_48 ?_
                refine lv_iadd hx hb dX3_lacking_49 ?_
                refine m_topi (y := (fillK fst0Z stepZ iZ)) (by rfl) ?_
                refine lv_iload_n hx hb dX3_lacking_50 rfl (lv_at hl 1 rfl) ?_
                refine lv_iload hx hb dX3_lacking_51 (lv_at hl 5 rfl) ?_
                refine lv_iload_n hx hb dX3_lacking_53 rfl (lv_at hl 2 rfl) ?_
                refine lv_imul hx hb dX3_lacking_54 ?_
                refine lv_iadd hx hb dX3_lacking_55 ?_
                refine m_topi (y := (fillK fst0Z stepZ kZ)) (by rfl) ?_
                refine lv_icmp_eq (tgt := 63) hx hb dX3_lacking_56 (by decide) (fun c_56 => ?_) (fun c_56 => ?_)
                · --L69F22TL3539F56T
                  refine lv_iconst (v := 0) hx hb dX3_lacking_63 (by decide) ?_
                  refine m_topi (y := (bI (decide (¬ fillK fst0Z stepZ iZ = fillK fst0Z stepZ kZ)))) (by rw [decide_eq_false (fun q9 => q9 c_56)]; rfl) ?_
                  refine lv_iand hx hb dX3_lacking_64 ?_
                  refine m_topi (y := (bI (isN fZ npZ (fillK fst0Z stepZ) kZ (iZ + 1)))) (by exact bI_and _ _) ?_
                  refine lv_istore (lv' := [(6, .int (bI (isN fZ npZ (fillK fst0Z stepZ) kZ (iZ + 1)))), (0, .ref yZ), (1, .int fst0Z), (2, .int stepZ), (3, .int (nI manyZ)), (4, .int (nI (cntP (fun k9 => isN fZ npZ (fillK fst0Z stepZ) k9 k9) kZ))), (5, .int (nI kZ)), (7, .int (nI iZ))]) hx hb dX3_lacking_65 hl (by decide) rfl (fun ls hl => ?_)
                  refine lv_iinc (v := (nI (iZ + 1))) (lv' := [(7, .int (nI (iZ + 1))), (6, .int (bI (isN fZ npZ (fillK fst0Z stepZ) kZ (iZ + 1)))), (0, .ref yZ), (1, .int fst0Z), (2, .int stepZ), (3, .int (nI manyZ)), (4, .int (nI (cntP (fun k9 => isN fZ npZ (fillK fst0Z stepZ) k9 k9) kZ))), (5, .int (nI kZ))]) hx hb dX3_lacking_67 hl (k := 7) rfl (nI_1 _) (by decide) rfl (fun ls hl => ?_)
                  refine lv_goto (tgt := 35) hx hb dX3_lacking_70 (by decide) ?_
                  exact ih_35  (iZ + 1) _ (by rfl) _ (by rfl) (by first | assumption | omega | rfl) (by omega) _ _ hP hD hS ls (lv_sub hl [2, 3, 4, 5, 6, 7, 1, 0] rfl)
                · --L69F22TL3539F56F
                  refine lv_iconst (v := 1) hx hb dX3_lacking_59 (by decide) ?_
                  refine m_topi (y := (bI (decide (¬ fillK fst0Z stepZ iZ = fillK fst0Z stepZ kZ)))) (by rw [decide_eq_true c_56]; rfl) ?_
                  refine lv_goto (tgt := 64) hx hb dX3_lacking_60 (by decide) ?_
                  refine lv_iand hx hb dX3_lacking_64 ?_
                  refine m_topi (y := (bI (isN fZ npZ (fillK fst0Z stepZ) kZ (iZ + 1)))) (by exact bI_and _ _) ?_
                  refine lv_istore (lv' := [(6, .int (bI (isN fZ npZ (fillK fst0Z stepZ) kZ (iZ + 1)))), (0, .ref yZ), (1, .int fst0Z), (2, .int stepZ), (3, .int (nI manyZ)), (4, .int (nI (cntP (fun k9 => isN fZ npZ (fillK fst0Z stepZ) k9 k9) kZ))), (5, .int (nI kZ)), (7, .int (nI iZ))]) hx hb dX3_lacking_65 hl (by decide) rfl (fun ls hl => ?_)
                  refine lv_iinc (v := (nI (iZ + 1))) (lv' := [(7, .int (nI (iZ + 1))), (6, .int (bI (isN fZ npZ (fillK fst0Z stepZ) kZ (iZ + 1)))), (0, .ref yZ), (1, .int fst0Z), (2, .int stepZ), (3, .int (nI manyZ)), (4, .int (nI (cntP (fun k9 => isN fZ npZ (fillK fst0Z stepZ) k9 k9) kZ))), (5, .int (nI kZ))]) hx hb dX3_lacking_67 hl (k := 7) rfl (nI_1 _) (by decide) rfl (fun ls hl => ?_)
                  refine lv_goto (tgt := 35) hx hb dX3_lacking_70 (by decide) ?_
                  exact ih_35  (iZ + 1) _ (by rfl) _ (by rfl) (by first | assumption | omega | rfl) (by omega) _ _ hP hD hS ls (lv_sub hl [2, 3, 4, 5, 6, 7, 1, 0] rfl)
          exact loop_35 (kZ - 0 + 1) 0 _ (by rfl) _ (by first | rfl | simp [nI_1, nI_0]) (by first | assumption | omega | rfl) (by exact Nat.lt_succ_self _) _ _ hP hD hS ls (lv_sub hl [2, 3, 4, 5, 6, 7, 1, 0] rfl)
        · --L69F22F
          refine lv_iconst (v := 1) hx hb dX3_lacking_25 (by decide) ?_
          refine m_topi (y := (bI (isN fZ npZ (fillK fst0Z stepZ) kZ 0))) (by have ho := iO_ge c_22 (rL_lt (by omega)); show _ = bI (!_); rw [ho]; rfl) ?_
          refine lv_goto (tgt := 30) hx hb dX3_lacking_26 (by decide) ?_
          refine lv_istore (lv' := [(6, .int (bI (isN fZ npZ (fillK fst0Z stepZ) kZ 0))), (0, .ref yZ), (1, .int fst0Z), (2, .int stepZ), (3, .int (nI manyZ)), (4, .int (nI (cntP (fun k9 => isN fZ npZ (fillK fst0Z stepZ) k9 k9) kZ))), (5, .int (nI kZ))]) hx hb dX3_lacking_30 hl (by decide) rfl (fun ls hl => ?_)
          refine lv_iconst (v := 0) hx hb dX3_lacking_32 (by decide) ?_
          refine lv_istore (lv' := [(7, .int 0), (6, .int (bI (isN fZ npZ (fillK fst0Z stepZ) kZ 0))), (0, .ref yZ), (1, .int fst0Z), (2, .int stepZ), (3, .int (nI manyZ)), (4, .int (nI (cntP (fun k9 => isN fZ npZ (fillK fst0Z stepZ) k9 k9) kZ))), (5, .int (nI kZ))]) hx hb dX3_lacking_33 hl (by decide) rfl (fun ls hl => ?_)
          have loop_35 : ∀ (k_35 : Nat) (iZ : Nat) (x_6 : Int32) (ex_6 : x_6 = (bI (isN fZ npZ (fillK fst0Z stepZ) kZ iZ))) (x_7 : Int32) (ex_7 : x_7 = (nI iZ)) (hi : iZ ≤ kZ) (hm_ : kZ - iZ < k_35) (H : Heap) (locs : List Loc) (hP : va_P D vwCl [(yZ, .inr (3, [.ref akZ, .ref avZ, .ref awZ, .ref aoZ, .ref amZ, .ref lkZ, .ref lvZ, .ref luZ, .int (nI npZ), .int iwZ, .int imZ, .int ilZ, .int irZ, .int iuZ, .int iaZ, .int icZ])), (akZ, .inl (I, 200, .inl fZ))] H) (hD : va_D A [(yZ, .inr (3, [.ref akZ, .ref avZ, .ref awZ, .ref aoZ, .ref amZ, .ref lkZ, .ref lvZ, .ref luZ, .int (nI npZ), .int iwZ, .int imZ, .int ilZ, .int irZ, .int iuZ, .int iaZ, .int icZ])), (akZ, .inl (I, 200, .inl fZ))]) (hS : va_S A s.heap H locs) (ls : Array Slot) (hl : lv_has ls 8 [(0, .ref yZ), (1, .int fst0Z), (2, .int stepZ), (3, .int (nI manyZ)), (4, .int (nI (cntP (fun k9 => isN fZ npZ (fillK fst0Z stepZ) k9 k9) kZ))), (5, .int (nI kZ)), (6, .int x_6), (7, .int x_7)]), W p l e (mRm 2 45 0 0) s m args below meth c H locs 0 0 (MQ below (va_Qi (fun (x : Int32) (u : Unit) => x = (nI (lackN fZ npZ (fillK fst0Z stepZ) manyZ))) (mB D (fun (u : Unit) => [(yZ, .inr (3, [.ref akZ, .ref avZ, .ref awZ, .ref aoZ, .ref amZ, .ref lkZ, .ref lvZ, .ref luZ, .int (nI npZ), .int iwZ, .int imZ, .int ilZ, .int irZ, .int iuZ, .int iaZ, .int icZ])), (akZ, .inl (I, 200, .inl fZ))]) A) A) args s 0 0 A) (F0 m 35 ls []) := by
            intro k_35
            induction k_35 with
            | zero => intro iZ x_6 ex_6 x_7 ex_7 hi hm_; exact absurd hm_ (Nat.not_lt_zero _)
            | succ k_35 ih_35 =>
              intro iZ x_6 ex_6 x_7 ex_7 hi hm_ H locs hP hD hS ls hl
              subst ex_6
              subst ex_7
              refine lv_iload hx hb dX3_lacking_35 (lv_at hl 7 rfl) ?_
              refine lv_iload hx hb dX3_lacking_37 (lv_at hl 5 rfl) ?_
              refine lv_icmp_ge (tgt := 73) hx hb dX3_lacking_39 (by decide) (fun c_39 => ?_) (fun c_39 => ?_)
              · --L69F22FL3539T
                have qz := (nI_leI (by omega) (by omega)).mp c_39
                have ee : iZ = kZ := by omega
                rw [ee] at hl
                refine lv_iload hx hb dX3_lacking_73 (lv_at hl 4 rfl) ?_
                refine lv_iload hx hb dX3_lacking_75 (lv_at hl 6 rfl) ?_
                refine lv_if_eq (tgt := 84) hx hb dX3_lacking_77 (by decide) (fun c_77 => ?_) (fun c_77 => ?_)
                · --L69F22FL3539T77T
                  refine lv_iconst (v := 0) hx hb dX3_lacking_84 (by decide) ?_
                  refine lv_iadd hx hb dX3_lacking_85 ?_
                  refine m_topi (y := (nI (cntP (fun k9 => isN fZ npZ (fillK fst0Z stepZ) k9 k9) (kZ + 1)))) (by rw [cntP_f (q := fun k9 => isN fZ npZ (fillK fst0Z stepZ) k9 k9) (bI0.mp c_77)]; exact Int32.add_zero _) ?_
                  refine lv_istore (lv' := [(4, .int (nI (cntP (fun k9 => isN fZ npZ (fillK fst0Z stepZ) k9 k9) (kZ + 1)))), (0, .ref yZ), (1, .int fst0Z), (2, .int stepZ), (3, .int (nI manyZ)), (5, .int (nI kZ)), (6, .int (bI (isN fZ npZ (fillK fst0Z stepZ) kZ kZ))), (7, .int (nI kZ))]) hx hb dX3_lacking_86 hl (by decide) rfl (fun ls hl => ?_)
                  refine lv_iinc (v := (nI (kZ + 1))) (lv' := [(5, .int (nI (kZ + 1))), (4, .int (nI (cntP (fun k9 => isN fZ npZ (fillK fst0Z stepZ) k9 k9) (kZ + 1)))), (0, .ref yZ), (1, .int fst0Z), (2, .int stepZ), (3, .int (nI manyZ)), (6, .int (bI (isN fZ npZ (fillK fst0Z stepZ) kZ kZ))), (7, .int (nI kZ))]) hx hb dX3_lacking_88 hl (k := 5) rfl (nI_1 _) (by decide) rfl (fun ls hl => ?_)
                  refine lv_goto (tgt := 6) hx hb dX3_lacking_91 (by decide) ?_
                  exact ih_6  (kZ + 1) _ (by rfl) _ (by rfl) (by first | assumption | omega | rfl) (by omega) _ _ hP hD hS ls (lv_sub hl [2, 3, 4, 5, 1, 0] rfl)
                · --L69F22FL3539T77F
                  refine lv_iconst (v := 1) hx hb dX3_lacking_80 (by decide) ?_
                  refine lv_goto (tgt := 85) hx hb dX3_lacking_81 (by decide) ?_
                  refine lv_iadd hx hb dX3_lacking_85 ?_
                  refine m_topi (y := (nI (cntP (fun k9 => isN fZ npZ (fillK fst0Z stepZ) k9 k9) (kZ + 1)))) (by rw [cntP_t (q := fun k9 => isN fZ npZ (fillK fst0Z stepZ) k9 k9) (bI1 c_77)]; exact nI_1 _) ?_
                  refine lv_istore (lv' := [(4, .int (nI (cntP (fun k9 => isN fZ npZ (fillK fst0Z stepZ) k9 k9) (kZ + 1)))), (0, .ref yZ), (1, .int fst0Z), (2, .int stepZ), (3, .int (nI manyZ)), (5, .int (nI kZ)), (6, .int (bI (isN fZ npZ (fillK fst0Z stepZ) kZ kZ))), (7, .int (nI kZ))]) hx hb dX3_lacking_86 hl (by decide) rfl (fun ls hl => ?_)
                  refine lv_iinc (v := (nI (kZ + 1))) (lv' := [(5, .int (nI (kZ + 1))), (4, .int (nI (cntP (fun k9 => isN fZ npZ (fillK fst0Z stepZ) k9 k9) (kZ + 1)))), (0, .ref yZ), (1, .int fst0Z), (2, .int stepZ), (3, .int (nI manyZ)), (6, .int (bI (isN fZ npZ (fillK fst0Z stepZ) kZ kZ))), (7, .int (nI kZ))]) hx hb dX3_lacking_88 hl (k := 5) rfl (nI_1 _) (by decide) rfl (fun ls hl => ?_)
                  refine lv_goto (tgt := 6) hx hb dX3_lacking_91 (by decide) ?_
                  exact ih_6  (kZ + 1) _ (by rfl) _ (by rfl) (by first | assumption | omega | rfl) (by omega) _ _ hP hD hS ls (lv_sub hl [2, 3, 4, 5, 1, 0] rfl)
              · --L69F22FL3539F
                have hli : iZ < kZ := by
                  rcases Nat.lt_or_ge iZ kZ with q | q
                  · exact q
                  · exact absurd ((nI_leI (by omega) (by omega)).mpr q) c_39
                refine lv_iload hx hb dX3_lacking_42 (lv_at hl 6 rfl) ?_
                refine lv_iload_n hx hb dX3_lacking_44 rfl (lv_at hl 1 rfl) ?_
                refine lv_iload hx hb dX3_lacking_45 (lv_at hl 7 rfl) ?_
                refine lv_iload_n hx hb dX3_lacking_47 rfl (lv_at hl 2 rfl) ?_
                refine lv_imul hx hb dX3_lacking_48 ?_
                refine lv_iadd hx hb dX3_lacking_49 ?_
                refine m_topi (y := (fillK fst0Z stepZ iZ)) (by rfl) ?_
                refine lv_iload_n hx hb dX3_lacking_50 rfl (lv_at hl 1 rfl) ?_
                refine lv_iload hx hb dX3_lacking_51 (lv_at hl 5 rfl) ?_
                refine lv_iload_n hx hb dX3_lacking_53 rfl (lv_at hl 2 rfl) ?_
                refine lv_imul hx hb dX3_lacking_54 ?_
                refine lv_iadd hx hb dX3_lacking_55 ?_
                refine m_topi (y := (fillK fst0Z stepZ kZ)) (by rfl) ?_
                refine lv_icmp_eq (tgt := 63) hx hb dX3_lacking_56 (by decide) (fun c_56 => ?_) (fun c_56 => ?_)
                · --L69F22FL3539F56T
                  refine lv_iconst (v := 0) hx hb dX3_lacking_63 (by decide) ?_
                  refine m_topi (y := (bI (decide (¬ fillK fst0Z stepZ iZ = fillK fst0Z stepZ kZ)))) (by rw [decide_eq_false (fun q9 => q9 c_56)]; rfl) ?_
                  refine lv_iand hx hb dX3_lacking_64 ?_
                  refine m_topi (y := (bI (isN fZ npZ (fillK fst0Z stepZ) kZ (iZ + 1)))) (by exact bI_and _ _) ?_
                  refine lv_istore (lv' := [(6, .int (bI (isN fZ npZ (fillK fst0Z stepZ) kZ (iZ + 1)))), (0, .ref yZ), (1, .int fst0Z), (2, .int stepZ), (3, .int (nI manyZ)), (4, .int (nI (cntP (fun k9 => isN fZ npZ (fillK fst0Z stepZ) k9 k9) kZ))), (5, .int (nI kZ)), (7, .int (nI iZ))]) hx hb dX3_lacking_65 hl (by decide) rfl (fun ls hl => ?_)
                  refine lv_iinc (v := (nI (iZ + 1))) (lv' := [(7, .int (nI (iZ + 1))), (6, .int (bI (isN fZ npZ (fillK fst0Z stepZ) kZ (iZ + 1)))), (0, .ref yZ), (1, .int fst0Z), (2, .int stepZ), (3, .int (nI manyZ)), (4, .int (nI (cntP (fun k9 => isN fZ npZ (fillK fst0Z stepZ) k9 k9) kZ))), (5, .int (nI kZ))]) hx hb dX3_lacking_67 hl (k := 7) rfl (nI_1 _) (by decide) rfl (fun ls hl => ?_)
                  refine lv_goto (tgt := 35) hx hb dX3_lacking_70 (by decide) ?_
                  exact ih_35  (iZ + 1) _ (by rfl) _ (by rfl) (by first | assumption | omega | rfl) (by omega) _ _ hP hD hS ls (lv_sub hl [2, 3, 4, 5, 6, 7, 1, 0] rfl)
                · --L69F22FL3539F56F
                  refine lv_iconst (v := 1) hx hb dX3_lacking_59 (by decide) ?_
                  refine m_topi (y := (bI (decide (¬ fillK fst0Z stepZ iZ = fillK fst0Z stepZ kZ)))) (by rw [decide_eq_true c_56]; rfl) ?_
                  refine lv_goto (tgt := 64) hx hb dX3_lacking_60 (by decide) ?_
                  refine lv_iand hx hb dX3_lacking_64 ?_
                  refine m_topi (y := (bI (isN fZ npZ (fillK fst0Z stepZ) kZ (iZ + 1)))) (by exact bI_and _ _) ?_
                  refine lv_istore (lv' := [(6, .int (bI (isN fZ npZ (fillK fst0Z stepZ) kZ (iZ + 1)))), (0, .ref yZ), (1, .int fst0Z), (2, .int stepZ), (3, .int (nI manyZ)), (4, .int (nI (cntP (fun k9 => isN fZ npZ (fillK fst0Z stepZ) k9 k9) kZ))), (5, .int (nI kZ)), (7, .int (nI iZ))]) hx hb dX3_lacking_65 hl (by decide) rfl (fun ls hl => ?_)
                  refine lv_iinc (v := (nI (iZ + 1))) (lv' := [(7, .int (nI (iZ + 1))), (6, .int (bI (isN fZ npZ (fillK fst0Z stepZ) kZ (iZ + 1)))), (0, .ref yZ), (1, .int fst0Z), (2, .int stepZ), (3, .int (nI manyZ)), (4, .int (nI (cntP (fun k9 => isN fZ npZ (fillK fst0Z stepZ) k9 k9) kZ))), (5, .int (nI kZ))]) hx hb dX3_lacking_67 hl (k := 7) rfl (nI_1 _) (by decide) rfl (fun ls hl => ?_)
                  refine lv_goto (tgt := 35) hx hb dX3_lacking_70 (by decide) ?_
                  exact ih_35  (iZ + 1) _ (by rfl) _ (by rfl) (by first | assumption | omega | rfl) (by omega) _ _ hP hD hS ls (lv_sub hl [2, 3, 4, 5, 6, 7, 1, 0] rfl)
          exact loop_35 (kZ - 0 + 1) 0 _ (by rfl) _ (by first | rfl | simp [nI_1, nI_0]) (by first | assumption | omega | rfl) (by exact Nat.lt_succ_self _) _ _ hP hD hS ls (lv_sub hl [2, 3, 4, 5, 6, 7, 1, 0] rfl)
  exact loop_6 (manyZ - 0 + 1) 0 _ (by first | rfl | simp [nI_1, nI_0]) _ (by first | rfl | simp [nI_1, nI_0]) (by first | assumption | omega | rfl) (by exact Nat.lt_succ_self _) _ _ hP hD hS ls (lv_sub hl [2, 3, 4, 5, 1, 0] rfl)

set_option maxHeartbeats 4000000 in
set_option maxRecDepth 100000 in
theorem c_X3_fill (l : Launch) (D : va_G) (I J : ClassId) (sz : Nat) (yZ : Nat) (akZ : Nat) (avZ : Nat) (awZ : Nat) (aoZ : Nat) (amZ : Nat) (lkZ : Nat) (lvZ : Nat) (luZ : Nat) (npZ : Nat) (iwZ : Int32) (imZ : Int32) (ilZ : Int32) (irZ : Int32) (iuZ : Int32) (iaZ : Int32) (icZ : Int32) (fZ : Nat → Int32) (gZ : Nat → Int32) (fst0Z : Int32) (stepZ : Int32) (manyZ : Nat) (hmany : manyZ ≤ 64) (hq : npZ + (lackN fZ npZ (fillK fst0Z stepZ) manyZ) ≤ 200) (hall : (insWL (fillK fst0Z stepZ) nI manyZ (fZ, gZ, npZ)).2.2 ≤ 200) (hnp : npZ ≤ 200) : mCi l yX3_fill wsX3_fill 3 72 0 0 D I J [.ref yZ, .int fst0Z, .int stepZ, .int (nI manyZ)] [(yZ, .inr (3, [.ref akZ, .ref avZ, .ref awZ, .ref aoZ, .ref amZ, .ref lkZ, .ref lvZ, .ref luZ, .int (nI npZ), .int iwZ, .int imZ, .int ilZ, .int irZ, .int iuZ, .int iaZ, .int icZ])), (akZ, .inl (I, 200, .inl fZ)), (avZ, .inl (I, 200, .inl gZ))] sz (fun (x : Int32) (u : Unit) => x = (nI (insWL (fillK fst0Z stepZ) nI manyZ (fZ, gZ, npZ)).2.2)) (fun (u : Unit) => [(yZ, .inr (3, [.ref akZ, .ref avZ, .ref awZ, .ref aoZ, .ref amZ, .ref lkZ, .ref lvZ, .ref luZ, .int (nI ((insWL (fillK fst0Z stepZ) nI manyZ (fZ, gZ, npZ)).2.2)), .int iwZ, .int imZ, .int ilZ, .int irZ, .int iuZ, .int iaZ, .int 0])), (akZ, .inl (I, 200, .inl ((insWL (fillK fst0Z stepZ) nI manyZ (fZ, gZ, npZ)).1))), (avZ, .inl (I, 200, .inl ((insWL (fillK fst0Z stepZ) nI manyZ (fZ, gZ, npZ)).2.1)))]) := by
  refine m_ofi (cc := cX3_fill) (maxL := 5) (ret := (some .int)) (by decide) rfl (Nat.le_of_ble_eq_true rfl) ?_
  intro p e s m args below meth c A ls hx hb hr hlocks hml hts hown hin hK hP hD hA hS hl
  have hl : lv_has ls 5 [(0, .ref yZ), (1, .int fst0Z), (2, .int stepZ), (3, .int (nI manyZ))] := hl
  have hP : va_P D vwCl [(yZ, .inr (3, [.ref akZ, .ref avZ, .ref awZ, .ref aoZ, .ref amZ, .ref lkZ, .ref lvZ, .ref luZ, .int (nI npZ), .int iwZ, .int imZ, .int ilZ, .int irZ, .int iuZ, .int iaZ, .int icZ])), (akZ, .inl (I, 200, .inl fZ)), (avZ, .inl (I, 200, .inl gZ))] s.heap := hP
  have hD : va_D A [(yZ, .inr (3, [.ref akZ, .ref avZ, .ref awZ, .ref aoZ, .ref amZ, .ref lkZ, .ref lvZ, .ref luZ, .int (nI npZ), .int iwZ, .int imZ, .int ilZ, .int irZ, .int iuZ, .int iaZ, .int icZ])), (akZ, .inl (I, 200, .inl fZ)), (avZ, .inl (I, 200, .inl gZ))] := hD
  have hin9 : (decide ((0 : Int32) ≤ nI manyZ) && decide (nI manyZ ≤ 64)) = true := by
    rw [decide_eq_true (nI_pos' (by omega)), decide_eq_true (show nI manyZ ≤ 64 from (nI_leI (b := 64) (by omega) (by omega)).mpr hmany)]; rfl
  have hlk : (lackN fZ npZ (fillK fst0Z stepZ) manyZ) ≤ 64 := Nat.le_trans (cntP_le _ _) hmany
  refine lv_aload_n hx hb dX3_fill_0 rfl (lv_at hl 0 rfl) ?_
  refine lv_iload_n hx hb dX3_fill_1 rfl (lv_at hl 3 rfl) ?_
  refine lv_iconst (v := 0) hx hb dX3_fill_2 (by decide) ?_
  refine lv_bipush (v := 64) hx hb dX3_fill_3 (by decide) ?_
  refine m_Si (As := [.int (nI manyZ), .int 0, .int 64]) (wr := [(yZ, .inr (3, [.ref akZ, .ref avZ, .ref awZ, .ref aoZ, .ref amZ, .ref lkZ, .ref lvZ, .ref luZ, .int (nI npZ), .int iwZ, .int imZ, .int ilZ, .int irZ, .int iuZ, .int iaZ, .int icZ])), (akZ, .inl (I, 200, .inl fZ)), (avZ, .inl (I, 200, .inl gZ))]) (ws2 := fun _ => [(yZ, .inr (3, [.ref akZ, .ref avZ, .ref awZ, .ref aoZ, .ref amZ, .ref lkZ, .ref lvZ, .ref luZ, .int (nI npZ), .int iwZ, .int imZ, .int ilZ, .int irZ, .int iuZ, .int iaZ, .int icZ])), (akZ, .inl (I, 200, .inl fZ)), (avZ, .inl (I, 200, .inl gZ))]) ⟨hx, hb, hml, hown, hts⟩ hA hK hP hD hS hl.1 (c_X3_in l D I J s.heap.size (nI manyZ) 0 64 ) (cwS 3 hts gX3_fill_X3_in rfl rfl rfl (by decide +kernel) ⟨Nat.le_of_ble_eq_true rfl, Nat.le_of_ble_eq_true rfl⟩) [] [0, 1, 2] [0, 1, 2] rfl rfl (by decide) (by decide) (by decide) (by decide) (fun _ => rfl) rfl rfl (Nat.le_of_ble_eq_true rfl) dX3_fill_5 ⟨(by exact Nat.le_of_ble_eq_true rfl), (by exact Nat.le_of_ble_eq_true rfl)⟩ (fun r_5 u_5 H locs hw_5 hP hD hS => ?_)
  try dsimp only at hw_5
  have hP : va_P D vwCl [(yZ, .inr (3, [.ref akZ, .ref avZ, .ref awZ, .ref aoZ, .ref amZ, .ref lkZ, .ref lvZ, .ref luZ, .int (nI npZ), .int iwZ, .int imZ, .int ilZ, .int irZ, .int iuZ, .int iaZ, .int icZ])), (akZ, .inl (I, 200, .inl fZ)), (avZ, .inl (I, 200, .inl gZ))] H := hP
  have hD : va_D A [(yZ, .inr (3, [.ref akZ, .ref avZ, .ref awZ, .ref aoZ, .ref amZ, .ref lkZ, .ref lvZ, .ref luZ, .int (nI npZ), .int iwZ, .int imZ, .int ilZ, .int irZ, .int iuZ, .int iaZ, .int icZ])), (akZ, .inl (I, 200, .inl fZ)), (avZ, .inl (I, 200, .inl gZ))] := hD
  subst hw_5
  refine lv_if_ne (tgt := 15) hx hb dX3_fill_8 (by decide) (fun c_8 => ?_) (fun c_8 => ?_)
  · --8T
    refine lv_aload_n hx hb dX3_fill_15 rfl (lv_at hl 0 rfl) ?_
    refine va_get (D := D) (ci := 3) (v := .int (nI npZ)) (C := RX3) (T := TX3) (N := 16) hx hb hts (fun _ h => List.mem_cons_of_mem _ (List.mem_append_right _ h)) hown hK hP 0 rfl rfl 8 (by decide) (hts (.fieldLink RX3 41 "MapsByUseModel" "pairs" "I") (List.mem_of_getElem? (i := 1) (by decide +kernel))) (fun _ h9 => h9) rfl dX3_fill_16 ?_
    refine lv_aload_n hx hb dX3_fill_19 rfl (lv_at hl 0 rfl) ?_
    refine lv_iload_n hx hb dX3_fill_20 rfl (lv_at hl 1 rfl) ?_
    refine lv_iload_n hx hb dX3_fill_21 rfl (lv_at hl 2 rfl) ?_
    refine lv_iload_n hx hb dX3_fill_22 rfl (lv_at hl 3 rfl) ?_
    refine m_Vi (As := [.int fst0Z, .int stepZ, .int (nI manyZ)]) (wr := [(avZ, .inl (I, 200, .inl gZ))]) (ws2 := fun _ => [(yZ, .inr (3, [.ref akZ, .ref avZ, .ref awZ, .ref aoZ, .ref amZ, .ref lkZ, .ref lvZ, .ref luZ, .int (nI npZ), .int iwZ, .int imZ, .int ilZ, .int irZ, .int iuZ, .int iaZ, .int icZ])), (akZ, .inl (I, 200, .inl fZ)), (avZ, .inl (I, 200, .inl gZ))]) ⟨hx, hb, hml, hown, hts⟩ hA hK hP hD hS hl.1 (c_X3_lacking l D I J H.size yZ akZ avZ awZ aoZ amZ lkZ lvZ luZ npZ iwZ imZ ilZ irZ iuZ iaZ icZ fZ fst0Z stepZ manyZ (by assumption) (by omega)) (cwV 3 hts gX3_fill_X3_lacking rfl rfl rfl (by decide +kernel) ⟨Nat.le_of_ble_eq_true rfl, Nat.le_of_ble_eq_true rfl⟩) [0, 1] [2] [1, 2, 0] 0 3 rfl rfl rfl rfl rfl (by decide) (by decide) (by decide) (by decide) (fun _ => rfl) rfl rfl (Nat.le_of_ble_eq_true rfl) dX3_fill_23 ⟨(by exact Nat.le_of_ble_eq_true rfl), (by exact Nat.le_of_ble_eq_true rfl)⟩ (fun r_23 u_23 H locs hw_23 hP hD hS => ?_)
    try dsimp only at hw_23
    have hP : va_P D vwCl [(yZ, .inr (3, [.ref akZ, .ref avZ, .ref awZ, .ref aoZ, .ref amZ, .ref lkZ, .ref lvZ, .ref luZ, .int (nI npZ), .int iwZ, .int imZ, .int ilZ, .int irZ, .int iuZ, .int iaZ, .int icZ])), (akZ, .inl (I, 200, .inl fZ)), (avZ, .inl (I, 200, .inl gZ))] H := hP
    have hD : va_D A [(yZ, .inr (3, [.ref akZ, .ref avZ, .ref awZ, .ref aoZ, .ref amZ, .ref lkZ, .ref lvZ, .ref luZ, .int (nI npZ), .int iwZ, .int imZ, .int ilZ, .int irZ, .int iuZ, .int iaZ, .int icZ])), (akZ, .inl (I, 200, .inl fZ)), (avZ, .inl (I, 200, .inl gZ))] := hD
    subst hw_23
    refine lv_iadd hx hb dX3_fill_26 ?_
    refine m_topi (y := (nI (npZ + (lackN fZ npZ (fillK fst0Z stepZ) manyZ)))) (by exact nI_add _ _) ?_
    refine lv_sipush (v := 200) hx hb dX3_fill_27 (by decide) ?_
    refine lv_icmp_le (tgt := 37) hx hb dX3_fill_30 (by decide) (fun c_30 => ?_) (fun c_30 => ?_)
    · --8T30T
      refine lv_iconst (v := 0) hx hb dX3_fill_37 (by decide) ?_
      refine m_Vi (As := [.int 0]) (wr := [(akZ, .inl (I, 200, .inl fZ)), (avZ, .inl (I, 200, .inl gZ))]) (ws2 := fun _ => [(yZ, .inr (3, [.ref akZ, .ref avZ, .ref awZ, .ref aoZ, .ref amZ, .ref lkZ, .ref lvZ, .ref luZ, .int (nI npZ), .int iwZ, .int imZ, .int ilZ, .int irZ, .int iuZ, .int iaZ, .int 0])), (akZ, .inl (I, 200, .inl fZ)), (avZ, .inl (I, 200, .inl gZ))]) ⟨hx, hb, hml, hown, hts⟩ hA hK hP hD hS hl.1 (c_X3_fails l D I J H.size yZ akZ avZ awZ aoZ amZ lkZ lvZ luZ (nI npZ) iwZ imZ ilZ irZ iuZ iaZ icZ 0 ) (cwV 1 hts gX3_fill_X3_fails rfl rfl rfl (by decide +kernel) ⟨Nat.le_of_ble_eq_true rfl, Nat.le_of_ble_eq_true rfl⟩) [0] [1, 2] [2, 0, 1] 0 3 rfl rfl rfl rfl rfl (by decide) (by decide) (by decide) (by decide) (fun _ => rfl) rfl rfl (Nat.le_of_ble_eq_true rfl) dX3_fill_38 ⟨(by exact Nat.le_of_ble_eq_true rfl), (by exact Nat.le_of_ble_eq_true rfl)⟩ (fun r_38 u_38 H locs hw_38 hP hD hS => ?_)
      try dsimp only at hw_38
      have hP : va_P D vwCl [(yZ, .inr (3, [.ref akZ, .ref avZ, .ref awZ, .ref aoZ, .ref amZ, .ref lkZ, .ref lvZ, .ref luZ, .int (nI npZ), .int iwZ, .int imZ, .int ilZ, .int irZ, .int iuZ, .int iaZ, .int 0])), (akZ, .inl (I, 200, .inl fZ)), (avZ, .inl (I, 200, .inl gZ))] H := hP
      have hD : va_D A [(yZ, .inr (3, [.ref akZ, .ref avZ, .ref awZ, .ref aoZ, .ref amZ, .ref lkZ, .ref lvZ, .ref luZ, .int (nI npZ), .int iwZ, .int imZ, .int ilZ, .int irZ, .int iuZ, .int iaZ, .int 0])), (akZ, .inl (I, 200, .inl fZ)), (avZ, .inl (I, 200, .inl gZ))] := hD
      subst hw_38
      refine lv_if_eq (tgt := 46) hx hb dX3_fill_41 (by decide) (fun c_41 => ?_) (fun c_41 => ?_)
      · --8T30T41T
        refine lv_iconst (v := 0) hx hb dX3_fill_46 (by decide) ?_
        refine lv_istore (lv' := [(4, .int 0), (0, .ref yZ), (1, .int fst0Z), (2, .int stepZ), (3, .int (nI manyZ))]) hx hb dX3_fill_47 hl (by decide) rfl (fun ls hl => ?_)
        have loop_49 : ∀ (k_49 : Nat) (iZ : Nat) (n1Z : Nat) (f1Z : Nat → Int32) (g1Z : Nat → Int32) (x_4 : Int32) (ex_4 : x_4 = (nI iZ)) (hi : iZ ≤ manyZ) (hd : insWL (fillK fst0Z stepZ) nI iZ (fZ, gZ, npZ) = (f1Z, g1Z, n1Z)) (hm_ : manyZ - iZ < k_49) (H : Heap) (locs : List Loc) (hP : va_P D vwCl [(yZ, .inr (3, [.ref akZ, .ref avZ, .ref awZ, .ref aoZ, .ref amZ, .ref lkZ, .ref lvZ, .ref luZ, .int (nI n1Z), .int iwZ, .int imZ, .int ilZ, .int irZ, .int iuZ, .int iaZ, .int 0])), (akZ, .inl (I, 200, .inl f1Z)), (avZ, .inl (I, 200, .inl g1Z))] H) (hD : va_D A [(yZ, .inr (3, [.ref akZ, .ref avZ, .ref awZ, .ref aoZ, .ref amZ, .ref lkZ, .ref lvZ, .ref luZ, .int (nI n1Z), .int iwZ, .int imZ, .int ilZ, .int irZ, .int iuZ, .int iaZ, .int 0])), (akZ, .inl (I, 200, .inl f1Z)), (avZ, .inl (I, 200, .inl g1Z))]) (hS : va_S A s.heap H locs) (ls : Array Slot) (hl : lv_has ls 5 [(0, .ref yZ), (1, .int fst0Z), (2, .int stepZ), (3, .int (nI manyZ)), (4, .int x_4)]), W p l e (mRm 3 72 0 0) s m args below meth c H locs 0 0 (MQ below (va_Qi (fun (x : Int32) (u : Unit) => x = (nI (insWL (fillK fst0Z stepZ) nI manyZ (fZ, gZ, npZ)).2.2)) (mB D (fun (u : Unit) => [(yZ, .inr (3, [.ref akZ, .ref avZ, .ref awZ, .ref aoZ, .ref amZ, .ref lkZ, .ref lvZ, .ref luZ, .int (nI ((insWL (fillK fst0Z stepZ) nI manyZ (fZ, gZ, npZ)).2.2)), .int iwZ, .int imZ, .int ilZ, .int irZ, .int iuZ, .int iaZ, .int 0])), (akZ, .inl (I, 200, .inl ((insWL (fillK fst0Z stepZ) nI manyZ (fZ, gZ, npZ)).1))), (avZ, .inl (I, 200, .inl ((insWL (fillK fst0Z stepZ) nI manyZ (fZ, gZ, npZ)).2.1)))]) A) A) args s 0 0 A) (F0 m 49 ls []) := by
          intro k_49
          induction k_49 with
          | zero => intro iZ n1Z f1Z g1Z x_4 ex_4 hi hd hm_; exact absurd hm_ (Nat.not_lt_zero _)
          | succ k_49 ih_49 =>
            intro iZ n1Z f1Z g1Z x_4 ex_4 hi hd hm_ H locs hP hD hS ls hl
            subst ex_4
            have hb1 : n1Z ≤ 200 := by
              have hb2 := insWL_mono (fillK fst0Z stepZ) nI (fZ, gZ, npZ) hi
              rw [hd] at hb2
              exact Nat.le_trans hb2 hall
            refine lv_iload hx hb dX3_fill_49 (lv_at hl 4 rfl) ?_
            refine lv_iload_n hx hb dX3_fill_51 rfl (lv_at hl 3 rfl) ?_
            refine lv_icmp_ge (tgt := 73) hx hb dX3_fill_52 (by decide) (fun c_52 => ?_) (fun c_52 => ?_)
            · --8T30T41TL4952T
              have qq := (nI_leI (by omega) (by omega)).mp c_52
              have ee : iZ = manyZ := by omega
              rw [ee] at hd
              refine lv_aload_n hx hb dX3_fill_73 rfl (lv_at hl 0 rfl) ?_
              refine va_get (D := D) (ci := 3) (v := .int (nI n1Z)) (C := RX3) (T := TX3) (N := 16) hx hb hts (fun _ h => List.mem_cons_of_mem _ (List.mem_append_right _ h)) hown hK hP 0 rfl rfl 8 (by decide) (hts (.fieldLink RX3 41 "MapsByUseModel" "pairs" "I") (List.mem_of_getElem? (i := 1) (by decide +kernel))) (fun _ h9 => h9) rfl dX3_fill_74 ?_
              have hEq : [(yZ, .inr (3, [.ref akZ, .ref avZ, .ref awZ, .ref aoZ, .ref amZ, .ref lkZ, .ref lvZ, .ref luZ, .int (nI n1Z), .int iwZ, .int imZ, .int ilZ, .int irZ, .int iuZ, .int iaZ, .int 0])), (akZ, .inl (I, 200, .inl f1Z)), (avZ, .inl (I, 200, .inl g1Z))] = ([(yZ, .inr (3, [.ref akZ, .ref avZ, .ref awZ, .ref aoZ, .ref amZ, .ref lkZ, .ref lvZ, .ref luZ, .int (nI ((insWL (fillK fst0Z stepZ) nI manyZ (fZ, gZ, npZ)).2.2)), .int iwZ, .int imZ, .int ilZ, .int irZ, .int iuZ, .int iaZ, .int 0])), (akZ, .inl (I, 200, .inl ((insWL (fillK fst0Z stepZ) nI manyZ (fZ, gZ, npZ)).1))), (avZ, .inl (I, 200, .inl ((insWL (fillK fst0Z stepZ) nI manyZ (fZ, gZ, npZ)).2.1)))] : va_W) := (by simp only [hd])
              rw [hEq] at hP hD
              refine m_iret () hx hb hr hlocks hP hD hS dX3_fill_77 (by first | exact Nat.le_of_ble_eq_true rfl | omega) (by first | exact Nat.le_of_ble_eq_true rfl | omega) ?_
              rw [hd]
            · --8T30T41TL4952F
              have hlt : iZ < manyZ := by
                rcases Nat.lt_or_ge iZ manyZ with q | q
                · exact q
                · exact absurd ((nI_leI (by omega) (by omega)).mpr q) c_52
              refine lv_aload_n hx hb dX3_fill_55 rfl (lv_at hl 0 rfl) ?_
              refine lv_iload_n hx hb dX3_fill_56 rfl (lv_at hl 1 rfl) ?_
              refine lv_iload hx hb dX3_fill_57 (lv_at hl 4 rfl) ?_
              refine lv_iload_n hx hb dX3_fill_59 rfl (lv_at hl 2 rfl) ?_
              refine lv_imul hx hb dX3_fill_60 ?_
              refine lv_iadd hx hb dX3_fill_61 ?_
              refine m_topi (y := (fillK fst0Z stepZ iZ)) (by rfl) ?_
              refine lv_iload hx hb dX3_fill_62 (lv_at hl 4 rfl) ?_
              refine m_Vv (As := [.int (fillK fst0Z stepZ iZ), .int (nI iZ)]) (wr := []) (ws2 := fun _ => [(yZ, .inr (3, [.ref akZ, .ref avZ, .ref awZ, .ref aoZ, .ref amZ, .ref lkZ, .ref lvZ, .ref luZ, .int (nI (insN n1Z (rL f1Z (fillK fst0Z stepZ iZ) n1Z))), .int iwZ, .int imZ, .int ilZ, .int irZ, .int iuZ, .int iaZ, .int 0])), (akZ, .inl (I, 200, .inl (insF f1Z n1Z (fillK fst0Z stepZ iZ) (rL f1Z (fillK fst0Z stepZ iZ) n1Z)))), (avZ, .inl (I, 200, .inl (insG g1Z n1Z (nI iZ) (rL f1Z (fillK fst0Z stepZ iZ) n1Z))))]) ⟨hx, hb, hml, hown, hts⟩ hA hK hP hD hS hl.1 (c_X3_lays l D I J H.size yZ akZ avZ awZ aoZ amZ lkZ lvZ luZ n1Z iwZ imZ ilZ irZ iuZ iaZ 0 f1Z g1Z (fillK fst0Z stepZ iZ) (nI iZ) (by intro ho; exact ins2L_lt (s := (f1Z, g1Z, n1Z)) (v := nI iZ) (by rw [← hd]; exact Nat.le_trans (insWL_mono (fillK fst0Z stepZ) nI (fZ, gZ, npZ) (Nat.succ_le_of_lt hlt)) hall) ho) (by omega)) (cwV 2 hts gX3_fill_X3_lays rfl rfl rfl (by decide +kernel) ⟨Nat.le_of_ble_eq_true rfl, Nat.le_of_ble_eq_true rfl⟩) [0, 1, 2] [] [0, 1, 2] 0 3 rfl rfl rfl rfl rfl (by decide) (by decide) (by decide) (by decide) (fun _ => rfl) rfl rfl (Nat.le_of_ble_eq_true rfl) dX3_fill_64 ⟨(by exact Nat.le_of_ble_eq_true rfl), (by exact Nat.le_of_ble_eq_true rfl)⟩ (fun u_64 H locs hw_64 hP hD hS => ?_)
              clear hw_64
              have hP : va_P D vwCl [(yZ, .inr (3, [.ref akZ, .ref avZ, .ref awZ, .ref aoZ, .ref amZ, .ref lkZ, .ref lvZ, .ref luZ, .int (nI (insN n1Z (rL f1Z (fillK fst0Z stepZ iZ) n1Z))), .int iwZ, .int imZ, .int ilZ, .int irZ, .int iuZ, .int iaZ, .int 0])), (akZ, .inl (I, 200, .inl (insF f1Z n1Z (fillK fst0Z stepZ iZ) (rL f1Z (fillK fst0Z stepZ iZ) n1Z)))), (avZ, .inl (I, 200, .inl (insG g1Z n1Z (nI iZ) (rL f1Z (fillK fst0Z stepZ iZ) n1Z))))] H := hP
              have hD : va_D A [(yZ, .inr (3, [.ref akZ, .ref avZ, .ref awZ, .ref aoZ, .ref amZ, .ref lkZ, .ref lvZ, .ref luZ, .int (nI (insN n1Z (rL f1Z (fillK fst0Z stepZ iZ) n1Z))), .int iwZ, .int imZ, .int ilZ, .int irZ, .int iuZ, .int iaZ, .int 0])), (akZ, .inl (I, 200, .inl (insF f1Z n1Z (fillK fst0Z stepZ iZ) (rL f1Z (fillK fst0Z stepZ iZ) n1Z)))), (avZ, .inl (I, 200, .inl (insG g1Z n1Z (nI iZ) (rL f1Z (fillK fst0Z stepZ iZ) n1Z))))] := hD
              refine lv_iinc (v := (nI (iZ + 1))) (lv' := [(4, .int (nI (iZ + 1))), (0, .ref yZ), (1, .int fst0Z), (2, .int stepZ), (3, .int (nI manyZ))]) hx hb dX3_fill_67 hl (k := 4) rfl (nI_1 _) (by decide) rfl (fun ls hl => ?_)
              refine lv_goto (tgt := 49) hx hb dX3_fill_70 (by decide) ?_
              exact ih_49  (iZ + 1) (insN n1Z (rL f1Z (fillK fst0Z stepZ iZ) n1Z)) (insF f1Z n1Z (fillK fst0Z stepZ iZ) (rL f1Z (fillK fst0Z stepZ iZ) n1Z)) (insG g1Z n1Z (nI iZ) (rL f1Z (fillK fst0Z stepZ iZ) n1Z)) _ (by rfl) (by first | assumption | omega | rfl) (by show ins2L (insWL _ _ iZ _) _ _ = _; rw [hd]; rfl) (by omega) _ _ hP hD hS ls (lv_sub hl [1, 2, 3, 4, 0] rfl)
        exact loop_49 (manyZ - 0 + 1) 0 npZ fZ gZ _ (by first | rfl | simp [nI_1, nI_0]) (by first | assumption | omega | rfl) (by rfl) (by exact Nat.lt_succ_self _) _ _ hP hD hS ls (lv_sub hl [1, 2, 3, 4, 0] rfl)
      · --8T30T41F
        exact absurd (by decide) c_41
    · --8T30F
      exact absurd ((nI_leI (b := 200) (by omega) (by omega)).mpr hq) c_30
  · --8F
    exact absurd c_8 (by rw [hin9]; decide)

set_option maxHeartbeats 4000000 in
set_option maxRecDepth 100000 in
theorem c_X3_fill_F1 (l : Launch) (D : va_G) (I J : ClassId) (sz : Nat) (yZ : Nat) (akZ : Nat) (avZ : Nat) (awZ : Nat) (aoZ : Nat) (amZ : Nat) (lkZ : Nat) (lvZ : Nat) (luZ : Nat) (npZ : Nat) (iwZ : Int32) (imZ : Int32) (ilZ : Int32) (irZ : Int32) (iuZ : Int32) (iaZ : Int32) (icZ : Int32) (fZ : Nat → Int32) (fst0Z : Int32) (stepZ : Int32) (p3Z : Int32) (hbad : (decide ((0 : Int32) ≤ p3Z) && decide (p3Z ≤ 64)) = false) (hnp : npZ ≤ 200) : mCi l yX3_fill wsX3_fill 1 22 0 0 D I J [.ref yZ, .int fst0Z, .int stepZ, .int p3Z] [(yZ, .inr (3, [.ref akZ, .ref avZ, .ref awZ, .ref aoZ, .ref amZ, .ref lkZ, .ref lvZ, .ref luZ, .int (nI npZ), .int iwZ, .int imZ, .int ilZ, .int irZ, .int iuZ, .int iaZ, .int icZ])), (akZ, .inl (I, 200, .inl fZ))] sz (fun (x : Int32) (u : Unit) => x = 0) (fun (u : Unit) => [(yZ, .inr (3, [.ref akZ, .ref avZ, .ref awZ, .ref aoZ, .ref amZ, .ref lkZ, .ref lvZ, .ref luZ, .int (nI npZ), .int iwZ, .int imZ, .int ilZ, .int irZ, .int iuZ, .int iaZ, .int 1])), (akZ, .inl (I, 200, .inl fZ))]) := by
  refine m_ofi (cc := cX3_fill) (maxL := 5) (ret := (some .int)) (by decide) rfl (Nat.le_of_ble_eq_true rfl) ?_
  intro p e s m args below meth c A ls hx hb hr hlocks hml hts hown hin hK hP hD hA hS hl
  have hl : lv_has ls 5 [(0, .ref yZ), (1, .int fst0Z), (2, .int stepZ), (3, .int p3Z)] := hl
  have hP : va_P D vwCl [(yZ, .inr (3, [.ref akZ, .ref avZ, .ref awZ, .ref aoZ, .ref amZ, .ref lkZ, .ref lvZ, .ref luZ, .int (nI npZ), .int iwZ, .int imZ, .int ilZ, .int irZ, .int iuZ, .int iaZ, .int icZ])), (akZ, .inl (I, 200, .inl fZ))] s.heap := hP
  have hD : va_D A [(yZ, .inr (3, [.ref akZ, .ref avZ, .ref awZ, .ref aoZ, .ref amZ, .ref lkZ, .ref lvZ, .ref luZ, .int (nI npZ), .int iwZ, .int imZ, .int ilZ, .int irZ, .int iuZ, .int iaZ, .int icZ])), (akZ, .inl (I, 200, .inl fZ))] := hD
  refine lv_aload_n hx hb dX3_fill_0 rfl (lv_at hl 0 rfl) ?_
  refine lv_iload_n hx hb dX3_fill_1 rfl (lv_at hl 3 rfl) ?_
  refine lv_iconst (v := 0) hx hb dX3_fill_2 (by decide) ?_
  refine lv_bipush (v := 64) hx hb dX3_fill_3 (by decide) ?_
  refine m_Si (As := [.int p3Z, .int 0, .int 64]) (wr := [(yZ, .inr (3, [.ref akZ, .ref avZ, .ref awZ, .ref aoZ, .ref amZ, .ref lkZ, .ref lvZ, .ref luZ, .int (nI npZ), .int iwZ, .int imZ, .int ilZ, .int irZ, .int iuZ, .int iaZ, .int icZ])), (akZ, .inl (I, 200, .inl fZ))]) (ws2 := fun _ => [(yZ, .inr (3, [.ref akZ, .ref avZ, .ref awZ, .ref aoZ, .ref amZ, .ref lkZ, .ref lvZ, .ref luZ, .int (nI npZ), .int iwZ, .int imZ, .int ilZ, .int irZ, .int iuZ, .int iaZ, .int icZ])), (akZ, .inl (I, 200, .inl fZ))]) ⟨hx, hb, hml, hown, hts⟩ hA hK hP hD hS hl.1 (c_X3_in l D I J s.heap.size p3Z 0 64 ) (cwS 3 hts gX3_fill_X3_in rfl rfl rfl (by decide +kernel) ⟨Nat.le_of_ble_eq_true rfl, Nat.le_of_ble_eq_true rfl⟩) [] [0, 1] [0, 1] rfl rfl (by decide) (by decide) (by decide) (by decide) (fun _ => rfl) rfl rfl (Nat.le_of_ble_eq_true rfl) dX3_fill_5 ⟨(by exact Nat.le_of_ble_eq_true rfl), (by exact Nat.le_of_ble_eq_true rfl)⟩ (fun r_5 u_5 H locs hw_5 hP hD hS => ?_)
  try dsimp only at hw_5
  have hP : va_P D vwCl [(yZ, .inr (3, [.ref akZ, .ref avZ, .ref awZ, .ref aoZ, .ref amZ, .ref lkZ, .ref lvZ, .ref luZ, .int (nI npZ), .int iwZ, .int imZ, .int ilZ, .int irZ, .int iuZ, .int iaZ, .int icZ])), (akZ, .inl (I, 200, .inl fZ))] H := hP
  have hD : va_D A [(yZ, .inr (3, [.ref akZ, .ref avZ, .ref awZ, .ref aoZ, .ref amZ, .ref lkZ, .ref lvZ, .ref luZ, .int (nI npZ), .int iwZ, .int imZ, .int ilZ, .int irZ, .int iuZ, .int iaZ, .int icZ])), (akZ, .inl (I, 200, .inl fZ))] := hD
  subst hw_5
  refine lv_if_ne (tgt := 15) hx hb dX3_fill_8 (by decide) (fun c_8 => ?_) (fun c_8 => ?_)
  · --8T
    exact absurd (by rw [hbad]; rfl) c_8
  · --8F
    refine lv_iconst (v := 1) hx hb dX3_fill_11 (by decide) ?_
    refine lv_goto (tgt := 38) hx hb dX3_fill_12 (by decide) ?_
    refine m_Vi (As := [.int 1]) (wr := [(akZ, .inl (I, 200, .inl fZ))]) (ws2 := fun _ => [(yZ, .inr (3, [.ref akZ, .ref avZ, .ref awZ, .ref aoZ, .ref amZ, .ref lkZ, .ref lvZ, .ref luZ, .int (nI npZ), .int iwZ, .int imZ, .int ilZ, .int irZ, .int iuZ, .int iaZ, .int 1])), (akZ, .inl (I, 200, .inl fZ))]) ⟨hx, hb, hml, hown, hts⟩ hA hK hP hD hS hl.1 (c_X3_fails l D I J H.size yZ akZ avZ awZ aoZ amZ lkZ lvZ luZ (nI npZ) iwZ imZ ilZ irZ iuZ iaZ icZ 1 ) (cwV 1 hts gX3_fill_X3_fails rfl rfl rfl (by decide +kernel) ⟨Nat.le_of_ble_eq_true rfl, Nat.le_of_ble_eq_true rfl⟩) [0] [1] [1, 0] 0 3 rfl rfl rfl rfl rfl (by decide) (by decide) (by decide) (by decide) (fun _ => rfl) rfl rfl (Nat.le_of_ble_eq_true rfl) dX3_fill_38 ⟨(by exact Nat.le_of_ble_eq_true rfl), (by exact Nat.le_of_ble_eq_true rfl)⟩ (fun r_38 u_38 H locs hw_38 hP hD hS => ?_)
    try dsimp only at hw_38
    have hP : va_P D vwCl [(yZ, .inr (3, [.ref akZ, .ref avZ, .ref awZ, .ref aoZ, .ref amZ, .ref lkZ, .ref lvZ, .ref luZ, .int (nI npZ), .int iwZ, .int imZ, .int ilZ, .int irZ, .int iuZ, .int iaZ, .int 1])), (akZ, .inl (I, 200, .inl fZ))] H := hP
    have hD : va_D A [(yZ, .inr (3, [.ref akZ, .ref avZ, .ref awZ, .ref aoZ, .ref amZ, .ref lkZ, .ref lvZ, .ref luZ, .int (nI npZ), .int iwZ, .int imZ, .int ilZ, .int irZ, .int iuZ, .int iaZ, .int 1])), (akZ, .inl (I, 200, .inl fZ))] := hD
    subst hw_38
    refine lv_if_eq (tgt := 46) hx hb dX3_fill_41 (by decide) (fun c_41 => ?_) (fun c_41 => ?_)
    · --8F41T
      exact absurd c_41 (by decide)
    · --8F41F
      refine lv_iconst (v := 0) hx hb dX3_fill_44 (by decide) ?_
      refine m_iret () hx hb hr hlocks hP hD hS dX3_fill_45 (by first | exact Nat.le_of_ble_eq_true rfl | omega) (by first | exact Nat.le_of_ble_eq_true rfl | omega) ?_
      rfl

set_option maxHeartbeats 4000000 in
set_option maxRecDepth 100000 in
theorem c_X3_fill_F2 (l : Launch) (D : va_G) (I J : ClassId) (sz : Nat) (yZ : Nat) (akZ : Nat) (avZ : Nat) (awZ : Nat) (aoZ : Nat) (amZ : Nat) (lkZ : Nat) (lvZ : Nat) (luZ : Nat) (npZ : Nat) (iwZ : Int32) (imZ : Int32) (ilZ : Int32) (irZ : Int32) (iuZ : Int32) (iaZ : Int32) (icZ : Int32) (fZ : Nat → Int32) (fst0Z : Int32) (stepZ : Int32) (manyZ : Nat) (hmany : manyZ ≤ 64) (hq : 200 < npZ + (lackN fZ npZ (fillK fst0Z stepZ) manyZ)) (hnp : npZ ≤ 200) : mCi l yX3_fill wsX3_fill 3 72 0 0 D I J [.ref yZ, .int fst0Z, .int stepZ, .int (nI manyZ)] [(yZ, .inr (3, [.ref akZ, .ref avZ, .ref awZ, .ref aoZ, .ref amZ, .ref lkZ, .ref lvZ, .ref luZ, .int (nI npZ), .int iwZ, .int imZ, .int ilZ, .int irZ, .int iuZ, .int iaZ, .int icZ])), (akZ, .inl (I, 200, .inl fZ))] sz (fun (x : Int32) (u : Unit) => x = 0) (fun (u : Unit) => [(yZ, .inr (3, [.ref akZ, .ref avZ, .ref awZ, .ref aoZ, .ref amZ, .ref lkZ, .ref lvZ, .ref luZ, .int (nI npZ), .int iwZ, .int imZ, .int ilZ, .int irZ, .int iuZ, .int iaZ, .int 2])), (akZ, .inl (I, 200, .inl fZ))]) := by
  refine m_ofi (cc := cX3_fill) (maxL := 5) (ret := (some .int)) (by decide) rfl (Nat.le_of_ble_eq_true rfl) ?_
  intro p e s m args below meth c A ls hx hb hr hlocks hml hts hown hin hK hP hD hA hS hl
  have hl : lv_has ls 5 [(0, .ref yZ), (1, .int fst0Z), (2, .int stepZ), (3, .int (nI manyZ))] := hl
  have hP : va_P D vwCl [(yZ, .inr (3, [.ref akZ, .ref avZ, .ref awZ, .ref aoZ, .ref amZ, .ref lkZ, .ref lvZ, .ref luZ, .int (nI npZ), .int iwZ, .int imZ, .int ilZ, .int irZ, .int iuZ, .int iaZ, .int icZ])), (akZ, .inl (I, 200, .inl fZ))] s.heap := hP
  have hD : va_D A [(yZ, .inr (3, [.ref akZ, .ref avZ, .ref awZ, .ref aoZ, .ref amZ, .ref lkZ, .ref lvZ, .ref luZ, .int (nI npZ), .int iwZ, .int imZ, .int ilZ, .int irZ, .int iuZ, .int iaZ, .int icZ])), (akZ, .inl (I, 200, .inl fZ))] := hD
  have hin9 : (decide ((0 : Int32) ≤ nI manyZ) && decide (nI manyZ ≤ 64)) = true := by
    rw [decide_eq_true (nI_pos' (by omega)), decide_eq_true (show nI manyZ ≤ 64 from (nI_leI (b := 64) (by omega) (by omega)).mpr hmany)]; rfl
  have hlk : (lackN fZ npZ (fillK fst0Z stepZ) manyZ) ≤ 64 := Nat.le_trans (cntP_le _ _) hmany
  refine lv_aload_n hx hb dX3_fill_0 rfl (lv_at hl 0 rfl) ?_
  refine lv_iload_n hx hb dX3_fill_1 rfl (lv_at hl 3 rfl) ?_
  refine lv_iconst (v := 0) hx hb dX3_fill_2 (by decide) ?_
  refine lv_bipush (v := 64) hx hb dX3_fill_3 (by decide) ?_
  refine m_Si (As := [.int (nI manyZ), .int 0, .int 64]) (wr := [(yZ, .inr (3, [.ref akZ, .ref avZ, .ref awZ, .ref aoZ, .ref amZ, .ref lkZ, .ref lvZ, .ref luZ, .int (nI npZ), .int iwZ, .int imZ, .int ilZ, .int irZ, .int iuZ, .int iaZ, .int icZ])), (akZ, .inl (I, 200, .inl fZ))]) (ws2 := fun _ => [(yZ, .inr (3, [.ref akZ, .ref avZ, .ref awZ, .ref aoZ, .ref amZ, .ref lkZ, .ref lvZ, .ref luZ, .int (nI npZ), .int iwZ, .int imZ, .int ilZ, .int irZ, .int iuZ, .int iaZ, .int icZ])), (akZ, .inl (I, 200, .inl fZ))]) ⟨hx, hb, hml, hown, hts⟩ hA hK hP hD hS hl.1 (c_X3_in l D I J s.heap.size (nI manyZ) 0 64 ) (cwS 3 hts gX3_fill_X3_in rfl rfl rfl (by decide +kernel) ⟨Nat.le_of_ble_eq_true rfl, Nat.le_of_ble_eq_true rfl⟩) [] [0, 1] [0, 1] rfl rfl (by decide) (by decide) (by decide) (by decide) (fun _ => rfl) rfl rfl (Nat.le_of_ble_eq_true rfl) dX3_fill_5 ⟨(by exact Nat.le_of_ble_eq_true rfl), (by exact Nat.le_of_ble_eq_true rfl)⟩ (fun r_5 u_5 H locs hw_5 hP hD hS => ?_)
  try dsimp only at hw_5
  have hP : va_P D vwCl [(yZ, .inr (3, [.ref akZ, .ref avZ, .ref awZ, .ref aoZ, .ref amZ, .ref lkZ, .ref lvZ, .ref luZ, .int (nI npZ), .int iwZ, .int imZ, .int ilZ, .int irZ, .int iuZ, .int iaZ, .int icZ])), (akZ, .inl (I, 200, .inl fZ))] H := hP
  have hD : va_D A [(yZ, .inr (3, [.ref akZ, .ref avZ, .ref awZ, .ref aoZ, .ref amZ, .ref lkZ, .ref lvZ, .ref luZ, .int (nI npZ), .int iwZ, .int imZ, .int ilZ, .int irZ, .int iuZ, .int iaZ, .int icZ])), (akZ, .inl (I, 200, .inl fZ))] := hD
  subst hw_5
  refine lv_if_ne (tgt := 15) hx hb dX3_fill_8 (by decide) (fun c_8 => ?_) (fun c_8 => ?_)
  · --8T
    refine lv_aload_n hx hb dX3_fill_15 rfl (lv_at hl 0 rfl) ?_
    refine va_get (D := D) (ci := 3) (v := .int (nI npZ)) (C := RX3) (T := TX3) (N := 16) hx hb hts (fun _ h => List.mem_cons_of_mem _ (List.mem_append_right _ h)) hown hK hP 0 rfl rfl 8 (by decide) (hts (.fieldLink RX3 41 "MapsByUseModel" "pairs" "I") (List.mem_of_getElem? (i := 1) (by decide +kernel))) (fun _ h9 => h9) rfl dX3_fill_16 ?_
    refine lv_aload_n hx hb dX3_fill_19 rfl (lv_at hl 0 rfl) ?_
    refine lv_iload_n hx hb dX3_fill_20 rfl (lv_at hl 1 rfl) ?_
    refine lv_iload_n hx hb dX3_fill_21 rfl (lv_at hl 2 rfl) ?_
    refine lv_iload_n hx hb dX3_fill_22 rfl (lv_at hl 3 rfl) ?_
    refine m_Vi (As := [.int fst0Z, .int stepZ, .int (nI manyZ)]) (wr := []) (ws2 := fun _ => [(yZ, .inr (3, [.ref akZ, .ref avZ, .ref awZ, .ref aoZ, .ref amZ, .ref lkZ, .ref lvZ, .ref luZ, .int (nI npZ), .int iwZ, .int imZ, .int ilZ, .int irZ, .int iuZ, .int iaZ, .int icZ])), (akZ, .inl (I, 200, .inl fZ))]) ⟨hx, hb, hml, hown, hts⟩ hA hK hP hD hS hl.1 (c_X3_lacking l D I J H.size yZ akZ avZ awZ aoZ amZ lkZ lvZ luZ npZ iwZ imZ ilZ irZ iuZ iaZ icZ fZ fst0Z stepZ manyZ (by assumption) (by omega)) (cwV 3 hts gX3_fill_X3_lacking rfl rfl rfl (by decide +kernel) ⟨Nat.le_of_ble_eq_true rfl, Nat.le_of_ble_eq_true rfl⟩) [0, 1] [] [0, 1] 0 3 rfl rfl rfl rfl rfl (by decide) (by decide) (by decide) (by decide) (fun _ => rfl) rfl rfl (Nat.le_of_ble_eq_true rfl) dX3_fill_23 ⟨(by exact Nat.le_of_ble_eq_true rfl), (by exact Nat.le_of_ble_eq_true rfl)⟩ (fun r_23 u_23 H locs hw_23 hP hD hS => ?_)
    try dsimp only at hw_23
    have hP : va_P D vwCl [(yZ, .inr (3, [.ref akZ, .ref avZ, .ref awZ, .ref aoZ, .ref amZ, .ref lkZ, .ref lvZ, .ref luZ, .int (nI npZ), .int iwZ, .int imZ, .int ilZ, .int irZ, .int iuZ, .int iaZ, .int icZ])), (akZ, .inl (I, 200, .inl fZ))] H := hP
    have hD : va_D A [(yZ, .inr (3, [.ref akZ, .ref avZ, .ref awZ, .ref aoZ, .ref amZ, .ref lkZ, .ref lvZ, .ref luZ, .int (nI npZ), .int iwZ, .int imZ, .int ilZ, .int irZ, .int iuZ, .int iaZ, .int icZ])), (akZ, .inl (I, 200, .inl fZ))] := hD
    subst hw_23
    refine lv_iadd hx hb dX3_fill_26 ?_
    refine m_topi (y := (nI (npZ + (lackN fZ npZ (fillK fst0Z stepZ) manyZ)))) (by exact nI_add _ _) ?_
    refine lv_sipush (v := 200) hx hb dX3_fill_27 (by decide) ?_
    refine lv_icmp_le (tgt := 37) hx hb dX3_fill_30 (by decide) (fun c_30 => ?_) (fun c_30 => ?_)
    · --8T30T
      exact absurd c_30 (nI_ge hq (by omega))
    · --8T30F
      refine lv_iconst (v := 2) hx hb dX3_fill_33 (by decide) ?_
      refine lv_goto (tgt := 38) hx hb dX3_fill_34 (by decide) ?_
      refine m_Vi (As := [.int 2]) (wr := [(akZ, .inl (I, 200, .inl fZ))]) (ws2 := fun _ => [(yZ, .inr (3, [.ref akZ, .ref avZ, .ref awZ, .ref aoZ, .ref amZ, .ref lkZ, .ref lvZ, .ref luZ, .int (nI npZ), .int iwZ, .int imZ, .int ilZ, .int irZ, .int iuZ, .int iaZ, .int 2])), (akZ, .inl (I, 200, .inl fZ))]) ⟨hx, hb, hml, hown, hts⟩ hA hK hP hD hS hl.1 (c_X3_fails l D I J H.size yZ akZ avZ awZ aoZ amZ lkZ lvZ luZ (nI npZ) iwZ imZ ilZ irZ iuZ iaZ icZ 2 ) (cwV 1 hts gX3_fill_X3_fails rfl rfl rfl (by decide +kernel) ⟨Nat.le_of_ble_eq_true rfl, Nat.le_of_ble_eq_true rfl⟩) [0] [1] [1, 0] 0 3 rfl rfl rfl rfl rfl (by decide) (by decide) (by decide) (by decide) (fun _ => rfl) rfl rfl (Nat.le_of_ble_eq_true rfl) dX3_fill_38 ⟨(by exact Nat.le_of_ble_eq_true rfl), (by exact Nat.le_of_ble_eq_true rfl)⟩ (fun r_38 u_38 H locs hw_38 hP hD hS => ?_)
      try dsimp only at hw_38
      have hP : va_P D vwCl [(yZ, .inr (3, [.ref akZ, .ref avZ, .ref awZ, .ref aoZ, .ref amZ, .ref lkZ, .ref lvZ, .ref luZ, .int (nI npZ), .int iwZ, .int imZ, .int ilZ, .int irZ, .int iuZ, .int iaZ, .int 2])), (akZ, .inl (I, 200, .inl fZ))] H := hP
      have hD : va_D A [(yZ, .inr (3, [.ref akZ, .ref avZ, .ref awZ, .ref aoZ, .ref amZ, .ref lkZ, .ref lvZ, .ref luZ, .int (nI npZ), .int iwZ, .int imZ, .int ilZ, .int irZ, .int iuZ, .int iaZ, .int 2])), (akZ, .inl (I, 200, .inl fZ))] := hD
      subst hw_38
      refine lv_if_eq (tgt := 46) hx hb dX3_fill_41 (by decide) (fun c_41 => ?_) (fun c_41 => ?_)
      · --8T30F41T
        exact absurd c_41 (by decide)
      · --8T30F41F
        refine lv_iconst (v := 0) hx hb dX3_fill_44 (by decide) ?_
        refine m_iret () hx hb hr hlocks hP hD hS dX3_fill_45 (by first | exact Nat.le_of_ble_eq_true rfl | omega) (by first | exact Nat.le_of_ble_eq_true rfl | omega) ?_
        rfl
  · --8F
    exact absurd c_8 (by rw [hin9]; decide)

set_option maxHeartbeats 4000000 in
set_option maxRecDepth 100000 in
theorem c_X3_addToAll (l : Launch) (D : va_G) (I J : ClassId) (sz : Nat) (yZ : Nat) (akZ : Nat) (avZ : Nat) (awZ : Nat) (aoZ : Nat) (amZ : Nat) (lkZ : Nat) (lvZ : Nat) (luZ : Nat) (npZ : Nat) (iwZ : Int32) (imZ : Int32) (ilZ : Int32) (irZ : Int32) (iuZ : Int32) (iaZ : Int32) (icZ : Int32) (gZ : Nat → Int32) (moreZ : Int32) (hnp : npZ ≤ 200) : mCi l yX3_addToAll wsX3_addToAll 0 0 0 0 D I J [.ref yZ, .int moreZ] [(yZ, .inr (3, [.ref akZ, .ref avZ, .ref awZ, .ref aoZ, .ref amZ, .ref lkZ, .ref lvZ, .ref luZ, .int (nI npZ), .int iwZ, .int imZ, .int ilZ, .int irZ, .int iuZ, .int iaZ, .int icZ])), (avZ, .inl (I, 200, .inl gZ))] sz (fun (x : Int32) (u : Unit) => x = (nI npZ)) (fun (u : Unit) => [(yZ, .inr (3, [.ref akZ, .ref avZ, .ref awZ, .ref aoZ, .ref amZ, .ref lkZ, .ref lvZ, .ref luZ, .int (nI npZ), .int iwZ, .int imZ, .int ilZ, .int irZ, .int iuZ, .int iaZ, .int 0])), (avZ, .inl (I, 200, .inl (addF gZ moreZ npZ)))]) := by
  refine m_ofi (cc := cX3_addToAll) (maxL := 3) (ret := (some .int)) (by decide) rfl (Nat.le_of_ble_eq_true rfl) ?_
  intro p e s m args below meth c A ls hx hb hr hlocks hml hts hown hin hK hP hD hA hS hl
  have hl : lv_has ls 3 [(0, .ref yZ), (1, .int moreZ)] := hl
  have hP : va_P D vwCl [(yZ, .inr (3, [.ref akZ, .ref avZ, .ref awZ, .ref aoZ, .ref amZ, .ref lkZ, .ref lvZ, .ref luZ, .int (nI npZ), .int iwZ, .int imZ, .int ilZ, .int irZ, .int iuZ, .int iaZ, .int icZ])), (avZ, .inl (I, 200, .inl gZ))] s.heap := hP
  have hD : va_D A [(yZ, .inr (3, [.ref akZ, .ref avZ, .ref awZ, .ref aoZ, .ref amZ, .ref lkZ, .ref lvZ, .ref luZ, .int (nI npZ), .int iwZ, .int imZ, .int ilZ, .int irZ, .int iuZ, .int iaZ, .int icZ])), (avZ, .inl (I, 200, .inl gZ))] := hD
  refine lv_aload_n hx hb dX3_addToAll_0 rfl (lv_at hl 0 rfl) ?_
  refine lv_iconst (v := 0) hx hb dX3_addToAll_1 (by decide) ?_
  refine va_put (D := D) (ci := 3) (v := .int 0) (ty := .int) (C := RX3) (T := TX3) (N := 16) hx hb hts (fun _ h => List.mem_cons_of_mem _ (List.mem_append_right _ h)) tyX3 tyX3_ok nmX3 hown hK hP hD hS 0 rfl rfl 15 (by decide) (hts (.fieldLink RX3 38 "MapsByUseModel" "code" "I") (List.mem_of_getElem? (i := 1) (by decide +kernel))) (fun _ h9 => h9) rfl (by decide +kernel) rfl rfl (Nat.le_of_ble_eq_true rfl) dX3_addToAll_2 (fun H locs hP hD hS => ?_)
  have hP : va_P D vwCl [(yZ, .inr (3, [.ref akZ, .ref avZ, .ref awZ, .ref aoZ, .ref amZ, .ref lkZ, .ref lvZ, .ref luZ, .int (nI npZ), .int iwZ, .int imZ, .int ilZ, .int irZ, .int iuZ, .int iaZ, .int 0])), (avZ, .inl (I, 200, .inl gZ))] H := hP
  have hD : va_D A [(yZ, .inr (3, [.ref akZ, .ref avZ, .ref awZ, .ref aoZ, .ref amZ, .ref lkZ, .ref lvZ, .ref luZ, .int (nI npZ), .int iwZ, .int imZ, .int ilZ, .int irZ, .int iuZ, .int iaZ, .int 0])), (avZ, .inl (I, 200, .inl gZ))] := hD
  refine lv_iconst (v := 0) hx hb dX3_addToAll_5 (by decide) ?_
  refine lv_istore_n (lv' := [(2, .int 0), (0, .ref yZ), (1, .int moreZ)]) hx hb dX3_addToAll_6 rfl hl (by decide) rfl (fun ls hl => ?_)
  have loop_7 : ∀ (k_7 : Nat) (iZ : Nat) (x_2 : Int32) (ex_2 : x_2 = (nI iZ)) (hi : iZ ≤ npZ) (hm_ : npZ - iZ < k_7) (H : Heap) (locs : List Loc) (hP : va_P D vwCl [(yZ, .inr (3, [.ref akZ, .ref avZ, .ref awZ, .ref aoZ, .ref amZ, .ref lkZ, .ref lvZ, .ref luZ, .int (nI npZ), .int iwZ, .int imZ, .int ilZ, .int irZ, .int iuZ, .int iaZ, .int 0])), (avZ, .inl (I, 200, .inl (addF gZ moreZ iZ)))] H) (hD : va_D A [(yZ, .inr (3, [.ref akZ, .ref avZ, .ref awZ, .ref aoZ, .ref amZ, .ref lkZ, .ref lvZ, .ref luZ, .int (nI npZ), .int iwZ, .int imZ, .int ilZ, .int irZ, .int iuZ, .int iaZ, .int 0])), (avZ, .inl (I, 200, .inl (addF gZ moreZ iZ)))]) (hS : va_S A s.heap H locs) (ls : Array Slot) (hl : lv_has ls 3 [(0, .ref yZ), (1, .int moreZ), (2, .int x_2)]), W p l e (mRm 0 0 0 0) s m args below meth c H locs 0 0 (MQ below (va_Qi (fun (x : Int32) (u : Unit) => x = (nI npZ)) (mB D (fun (u : Unit) => [(yZ, .inr (3, [.ref akZ, .ref avZ, .ref awZ, .ref aoZ, .ref amZ, .ref lkZ, .ref lvZ, .ref luZ, .int (nI npZ), .int iwZ, .int imZ, .int ilZ, .int irZ, .int iuZ, .int iaZ, .int 0])), (avZ, .inl (I, 200, .inl (addF gZ moreZ npZ)))]) A) A) args s 0 0 A) (F0 m 7 ls []) := by
    intro k_7
    induction k_7 with
    | zero => intro iZ x_2 ex_2 hi hm_; exact absurd hm_ (Nat.not_lt_zero _)
    | succ k_7 ih_7 =>
      intro iZ x_2 ex_2 hi hm_ H locs hP hD hS ls hl
      subst ex_2
      refine lv_iload_n hx hb dX3_addToAll_7 rfl (lv_at hl 2 rfl) ?_
      refine lv_aload_n hx hb dX3_addToAll_8 rfl (lv_at hl 0 rfl) ?_
      refine va_get (D := D) (ci := 3) (v := .int (nI npZ)) (C := RX3) (T := TX3) (N := 16) hx hb hts (fun _ h => List.mem_cons_of_mem _ (List.mem_append_right _ h)) hown hK hP 0 rfl rfl 8 (by decide) (hts (.fieldLink RX3 41 "MapsByUseModel" "pairs" "I") (List.mem_of_getElem? (i := 2) (by decide +kernel))) (fun _ h9 => h9) rfl dX3_addToAll_9 ?_
      refine lv_icmp_ge (tgt := 31) hx hb dX3_addToAll_12 (by decide) (fun c_12 => ?_) (fun c_12 => ?_)
      · --L712T
        have qq := (nI_leI (by omega) (by omega)).mp c_12
        have ee : iZ = npZ := by omega
        refine lv_aload_n hx hb dX3_addToAll_31 rfl (lv_at hl 0 rfl) ?_
        refine va_get (D := D) (ci := 3) (v := .int (nI npZ)) (C := RX3) (T := TX3) (N := 16) hx hb hts (fun _ h => List.mem_cons_of_mem _ (List.mem_append_right _ h)) hown hK hP 0 rfl rfl 8 (by decide) (hts (.fieldLink RX3 41 "MapsByUseModel" "pairs" "I") (List.mem_of_getElem? (i := 2) (by decide +kernel))) (fun _ h9 => h9) rfl dX3_addToAll_32 ?_
        have hEq : [(yZ, .inr (3, [.ref akZ, .ref avZ, .ref awZ, .ref aoZ, .ref amZ, .ref lkZ, .ref lvZ, .ref luZ, .int (nI npZ), .int iwZ, .int imZ, .int ilZ, .int irZ, .int iuZ, .int iaZ, .int 0])), (avZ, .inl (I, 200, .inl (addF gZ moreZ iZ)))] = ([(yZ, .inr (3, [.ref akZ, .ref avZ, .ref awZ, .ref aoZ, .ref amZ, .ref lkZ, .ref lvZ, .ref luZ, .int (nI npZ), .int iwZ, .int imZ, .int ilZ, .int irZ, .int iuZ, .int iaZ, .int 0])), (avZ, .inl (I, 200, .inl (addF gZ moreZ npZ)))] : va_W) := (by rw [ee])
        rw [hEq] at hP hD
        refine m_iret () hx hb hr hlocks hP hD hS dX3_addToAll_35 (by first | exact Nat.le_of_ble_eq_true rfl | omega) (by first | exact Nat.le_of_ble_eq_true rfl | omega) ?_
        rfl
      · --L712F
        have hlt : iZ < npZ := by
          rcases Nat.lt_or_ge iZ npZ with q | q
          · exact q
          · exact absurd ((nI_leI (by omega) (by omega)).mpr q) c_12
        refine lv_aload_n hx hb dX3_addToAll_15 rfl (lv_at hl 0 rfl) ?_
        refine va_get (D := D) (ci := 3) (v := .ref avZ) (C := RX3) (T := TX3) (N := 16) hx hb hts (fun _ h => List.mem_cons_of_mem _ (List.mem_append_right _ h)) hown hK hP 0 rfl rfl 1 (by decide) (hts (.fieldLink RX3 13 "MapsByUseModel" "values" "[I") (List.mem_of_getElem? (i := 3) (by decide +kernel))) (fun _ h9 => h9) rfl dX3_addToAll_16 ?_
        refine lv_iload_n hx hb dX3_addToAll_19 rfl (lv_at hl 2 rfl) ?_
        refine lv_dup2_11 hx hb dX3_addToAll_20 rfl rfl ?_
        refine m_iald (D := D) (cl := vwCl) hx hb hK hP 1 0 (j := iZ) rfl rfl (by rfl) (by omega) (by omega) dX3_addToAll_21 ?_
        refine lv_iload_n hx hb dX3_addToAll_22 rfl (lv_at hl 1 rfl) ?_
        refine lv_iadd hx hb dX3_addToAll_23 ?_
        refine m_topi (y := (gZ iZ + moreZ)) (by rw [addF_i]) ?_
        refine m_iast (D := D) (cl := vwCl) hx hb hK hP hD hS 1 0 (j := iZ) rfl rfl (by rfl) (by omega) (by omega) dX3_addToAll_24 (fun H locs hP hD hS => ?_)
        have hP : va_P D vwCl [(yZ, .inr (3, [.ref akZ, .ref avZ, .ref awZ, .ref aoZ, .ref amZ, .ref lkZ, .ref lvZ, .ref luZ, .int (nI npZ), .int iwZ, .int imZ, .int ilZ, .int irZ, .int iuZ, .int iaZ, .int 0])), (avZ, .inl (I, 200, .inl (upd (addF gZ moreZ iZ) iZ (gZ iZ + moreZ))))] H := hP
        have hD : va_D A [(yZ, .inr (3, [.ref akZ, .ref avZ, .ref awZ, .ref aoZ, .ref amZ, .ref lkZ, .ref lvZ, .ref luZ, .int (nI npZ), .int iwZ, .int imZ, .int ilZ, .int irZ, .int iuZ, .int iaZ, .int 0])), (avZ, .inl (I, 200, .inl (upd (addF gZ moreZ iZ) iZ (gZ iZ + moreZ))))] := hD
        refine lv_iinc (v := (nI (iZ + 1))) (lv' := [(2, .int (nI (iZ + 1))), (0, .ref yZ), (1, .int moreZ)]) hx hb dX3_addToAll_25 hl (k := 2) rfl (nI_1 _) (by decide) rfl (fun ls hl => ?_)
        refine lv_goto (tgt := 7) hx hb dX3_addToAll_28 (by decide) ?_
        have hEq : [(yZ, .inr (3, [.ref akZ, .ref avZ, .ref awZ, .ref aoZ, .ref amZ, .ref lkZ, .ref lvZ, .ref luZ, .int (nI npZ), .int iwZ, .int imZ, .int ilZ, .int irZ, .int iuZ, .int iaZ, .int 0])), (avZ, .inl (I, 200, .inl (upd (addF gZ moreZ iZ) iZ (gZ iZ + moreZ))))] = ([(yZ, .inr (3, [.ref akZ, .ref avZ, .ref awZ, .ref aoZ, .ref amZ, .ref lkZ, .ref lvZ, .ref luZ, .int (nI npZ), .int iwZ, .int imZ, .int ilZ, .int irZ, .int iuZ, .int iaZ, .int 0])), (avZ, .inl (I, 200, .inl (addF gZ moreZ (iZ + 1))))] : va_W) := (by rw [← addF_s])
        rw [hEq] at hP hD
        exact ih_7  (iZ + 1) _ (by rfl) (by first | assumption | omega | rfl) (by omega) _ _ hP hD hS ls (lv_sub hl [1, 2, 0] rfl)
  have hEq : [(yZ, .inr (3, [.ref akZ, .ref avZ, .ref awZ, .ref aoZ, .ref amZ, .ref lkZ, .ref lvZ, .ref luZ, .int (nI npZ), .int iwZ, .int imZ, .int ilZ, .int irZ, .int iuZ, .int iaZ, .int 0])), (avZ, .inl (I, 200, .inl gZ))] = ([(yZ, .inr (3, [.ref akZ, .ref avZ, .ref awZ, .ref aoZ, .ref amZ, .ref lkZ, .ref lvZ, .ref luZ, .int (nI npZ), .int iwZ, .int imZ, .int ilZ, .int irZ, .int iuZ, .int iaZ, .int 0])), (avZ, .inl (I, 200, .inl (addF gZ moreZ 0)))] : va_W) := (by rw [addF_0])
  rw [hEq] at hP hD
  exact loop_7 (npZ - 0 + 1) 0 _ (by first | rfl | simp [nI_1, nI_0]) (by first | assumption | omega | rfl) (by exact Nat.lt_succ_self _) _ _ hP hD hS ls (lv_sub hl [1, 2, 0] rfl)

set_option maxHeartbeats 4000000 in
set_option maxRecDepth 100000 in
theorem c_X3_dropBelow (l : Launch) (D : va_G) (I J : ClassId) (sz : Nat) (yZ : Nat) (akZ : Nat) (avZ : Nat) (awZ : Nat) (aoZ : Nat) (amZ : Nat) (lkZ : Nat) (lvZ : Nat) (luZ : Nat) (npZ : Nat) (iwZ : Int32) (imZ : Int32) (ilZ : Int32) (irZ : Int32) (iuZ : Int32) (iaZ : Int32) (icZ : Int32) (fZ : Nat → Int32) (gZ : Nat → Int32) (leastZ : Int32) (hnp : npZ ≤ 200) : mCi l yX3_dropBelow wsX3_dropBelow 1 21 0 0 D I J [.ref yZ, .int leastZ] [(yZ, .inr (3, [.ref akZ, .ref avZ, .ref awZ, .ref aoZ, .ref amZ, .ref lkZ, .ref lvZ, .ref luZ, .int (nI npZ), .int iwZ, .int imZ, .int ilZ, .int irZ, .int iuZ, .int iaZ, .int icZ])), (akZ, .inl (I, 200, .inl fZ)), (avZ, .inl (I, 200, .inl gZ))] sz (fun (x : Int32) (u : Unit) => x = (nI (npZ - (dropM (fun _ v9 => decide (v9 < leastZ)) npZ (fZ, gZ, npZ)).2.2))) (fun (u : Unit) => [(yZ, .inr (3, [.ref akZ, .ref avZ, .ref awZ, .ref aoZ, .ref amZ, .ref lkZ, .ref lvZ, .ref luZ, .int (nI ((dropM (fun _ v9 => decide (v9 < leastZ)) npZ (fZ, gZ, npZ)).2.2)), .int iwZ, .int imZ, .int ilZ, .int irZ, .int iuZ, .int iaZ, .int 0])), (akZ, .inl (I, 200, .inl ((dropM (fun _ v9 => decide (v9 < leastZ)) npZ (fZ, gZ, npZ)).1))), (avZ, .inl (I, 200, .inl ((dropM (fun _ v9 => decide (v9 < leastZ)) npZ (fZ, gZ, npZ)).2.1)))]) := by
  refine m_ofi (cc := cX3_dropBelow) (maxL := 4) (ret := (some .int)) (by decide) rfl (Nat.le_of_ble_eq_true rfl) ?_
  intro p e s m args below meth c A ls hx hb hr hlocks hml hts hown hin hK hP hD hA hS hl
  have hl : lv_has ls 4 [(0, .ref yZ), (1, .int leastZ)] := hl
  have hP : va_P D vwCl [(yZ, .inr (3, [.ref akZ, .ref avZ, .ref awZ, .ref aoZ, .ref amZ, .ref lkZ, .ref lvZ, .ref luZ, .int (nI npZ), .int iwZ, .int imZ, .int ilZ, .int irZ, .int iuZ, .int iaZ, .int icZ])), (akZ, .inl (I, 200, .inl fZ)), (avZ, .inl (I, 200, .inl gZ))] s.heap := hP
  have hD : va_D A [(yZ, .inr (3, [.ref akZ, .ref avZ, .ref awZ, .ref aoZ, .ref amZ, .ref lkZ, .ref lvZ, .ref luZ, .int (nI npZ), .int iwZ, .int imZ, .int ilZ, .int irZ, .int iuZ, .int iaZ, .int icZ])), (akZ, .inl (I, 200, .inl fZ)), (avZ, .inl (I, 200, .inl gZ))] := hD
  refine lv_aload_n hx hb dX3_dropBelow_0 rfl (lv_at hl 0 rfl) ?_
  refine lv_iconst (v := 0) hx hb dX3_dropBelow_1 (by decide) ?_
  refine va_put (D := D) (ci := 3) (v := .int 0) (ty := .int) (C := RX3) (T := TX3) (N := 16) hx hb hts (fun _ h => List.mem_cons_of_mem _ (List.mem_append_right _ h)) tyX3 tyX3_ok nmX3 hown hK hP hD hS 0 rfl rfl 15 (by decide) (hts (.fieldLink RX3 38 "MapsByUseModel" "code" "I") (List.mem_of_getElem? (i := 1) (by decide +kernel))) (fun _ h9 => h9) rfl (by decide +kernel) rfl rfl (Nat.le_of_ble_eq_true rfl) dX3_dropBelow_2 (fun H locs hP hD hS => ?_)
  have hP : va_P D vwCl [(yZ, .inr (3, [.ref akZ, .ref avZ, .ref awZ, .ref aoZ, .ref amZ, .ref lkZ, .ref lvZ, .ref luZ, .int (nI npZ), .int iwZ, .int imZ, .int ilZ, .int irZ, .int iuZ, .int iaZ, .int 0])), (akZ, .inl (I, 200, .inl fZ)), (avZ, .inl (I, 200, .inl gZ))] H := hP
  have hD : va_D A [(yZ, .inr (3, [.ref akZ, .ref avZ, .ref awZ, .ref aoZ, .ref amZ, .ref lkZ, .ref lvZ, .ref luZ, .int (nI npZ), .int iwZ, .int imZ, .int ilZ, .int irZ, .int iuZ, .int iaZ, .int 0])), (akZ, .inl (I, 200, .inl fZ)), (avZ, .inl (I, 200, .inl gZ))] := hD
  refine lv_aload_n hx hb dX3_dropBelow_5 rfl (lv_at hl 0 rfl) ?_
  refine va_get (D := D) (ci := 3) (v := .int (nI npZ)) (C := RX3) (T := TX3) (N := 16) hx hb hts (fun _ h => List.mem_cons_of_mem _ (List.mem_append_right _ h)) hown hK hP 0 rfl rfl 8 (by decide) (hts (.fieldLink RX3 41 "MapsByUseModel" "pairs" "I") (List.mem_of_getElem? (i := 2) (by decide +kernel))) (fun _ h9 => h9) rfl dX3_dropBelow_6 ?_
  refine lv_istore_n (lv' := [(2, .int (nI npZ)), (0, .ref yZ), (1, .int leastZ)]) hx hb dX3_dropBelow_9 rfl hl (by decide) rfl (fun ls hl => ?_)
  refine lv_aload_n hx hb dX3_dropBelow_10 rfl (lv_at hl 1 rfl) ?_
  refine va_get (D := D) (ci := 3) (v := .int (nI npZ)) (C := RX3) (T := TX3) (N := 16) hx hb hts (fun _ h => List.mem_cons_of_mem _ (List.mem_append_right _ h)) hown hK hP 0 rfl rfl 8 (by decide) (hts (.fieldLink RX3 41 "MapsByUseModel" "pairs" "I") (List.mem_of_getElem? (i := 2) (by decide +kernel))) (fun _ h9 => h9) rfl dX3_dropBelow_11 ?_
  refine lv_iconst (v := 1) hx hb dX3_dropBelow_14 (by decide) ?_
  refine lv_isub hx hb dX3_dropBelow_15 ?_
  refine lv_istore_n (lv' := [(3, .int ((nI npZ) - 1)), (2, .int (nI npZ)), (0, .ref yZ), (1, .int leastZ)]) hx hb dX3_dropBelow_16 rfl hl (by decide) rfl (fun ls hl => ?_)
  have loop_17 : ∀ (k_17 : Nat) (iZ : Nat) (n1Z : Nat) (f1Z : Nat → Int32) (g1Z : Nat → Int32) (x_3 : Int32) (ex_3 : x_3 = (nI iZ - 1)) (hi : iZ ≤ n1Z) (hn1 : n1Z ≤ npZ) (hd : dropM (fun _ v9 => decide (v9 < leastZ)) npZ (fZ, gZ, npZ) = dropM (fun _ v9 => decide (v9 < leastZ)) iZ (f1Z, g1Z, n1Z)) (hm_ : iZ < k_17) (H : Heap) (locs : List Loc) (hP : va_P D vwCl [(yZ, .inr (3, [.ref akZ, .ref avZ, .ref awZ, .ref aoZ, .ref amZ, .ref lkZ, .ref lvZ, .ref luZ, .int (nI n1Z), .int iwZ, .int imZ, .int ilZ, .int irZ, .int iuZ, .int iaZ, .int 0])), (akZ, .inl (I, 200, .inl f1Z)), (avZ, .inl (I, 200, .inl g1Z))] H) (hD : va_D A [(yZ, .inr (3, [.ref akZ, .ref avZ, .ref awZ, .ref aoZ, .ref amZ, .ref lkZ, .ref lvZ, .ref luZ, .int (nI n1Z), .int iwZ, .int imZ, .int ilZ, .int irZ, .int iuZ, .int iaZ, .int 0])), (akZ, .inl (I, 200, .inl f1Z)), (avZ, .inl (I, 200, .inl g1Z))]) (hS : va_S A s.heap H locs) (ls : Array Slot) (hl : lv_has ls 4 [(0, .ref yZ), (1, .int leastZ), (2, .int (nI npZ)), (3, .int x_3)]), W p l e (mRm 1 21 0 0) s m args below meth c H locs 0 0 (MQ below (va_Qi (fun (x : Int32) (u : Unit) => x = (nI (npZ - (dropM (fun _ v9 => decide (v9 < leastZ)) npZ (fZ, gZ, npZ)).2.2))) (mB D (fun (u : Unit) => [(yZ, .inr (3, [.ref akZ, .ref avZ, .ref awZ, .ref aoZ, .ref amZ, .ref lkZ, .ref lvZ, .ref luZ, .int (nI ((dropM (fun _ v9 => decide (v9 < leastZ)) npZ (fZ, gZ, npZ)).2.2)), .int iwZ, .int imZ, .int ilZ, .int irZ, .int iuZ, .int iaZ, .int 0])), (akZ, .inl (I, 200, .inl ((dropM (fun _ v9 => decide (v9 < leastZ)) npZ (fZ, gZ, npZ)).1))), (avZ, .inl (I, 200, .inl ((dropM (fun _ v9 => decide (v9 < leastZ)) npZ (fZ, gZ, npZ)).2.1)))]) A) A) args s 0 0 A) (F0 m 17 ls []) := by
    intro k_17
    induction k_17 with
    | zero => intro iZ n1Z f1Z g1Z x_3 ex_3 hi hn1 hd hm_; exact absurd hm_ (Nat.not_lt_zero _)
    | succ k_17 ih_17 =>
      intro iZ n1Z f1Z g1Z x_3 ex_3 hi hn1 hd hm_ H locs hP hD hS ls hl
      subst ex_3
      refine lv_iload_n hx hb dX3_dropBelow_17 rfl (lv_at hl 3 rfl) ?_
      refine lv_if_lt (tgt := 42) hx hb dX3_dropBelow_18 (by decide) (fun c_18 => ?_) (fun c_18 => ?_)
      · --L1718T
        have ee : iZ = 0 := by
          rcases Nat.eq_zero_or_pos iZ with q | q
          · exact q
          · obtain ⟨jZ, hj9⟩ : ∃ jZ, iZ = jZ + 1 := ⟨iZ - 1, by omega⟩
            rw [hj9, nI_pred] at c_18
            exact absurd c_18 (nI_pos (by omega))
        rw [ee] at hd
        have hd : (dropM (fun _ v9 => decide (v9 < leastZ)) npZ (fZ, gZ, npZ)) = (f1Z, g1Z, n1Z) := hd
        refine lv_iload_n hx hb dX3_dropBelow_42 rfl (lv_at hl 2 rfl) ?_
        refine lv_aload_n hx hb dX3_dropBelow_43 rfl (lv_at hl 0 rfl) ?_
        refine va_get (D := D) (ci := 3) (v := .int (nI n1Z)) (C := RX3) (T := TX3) (N := 16) hx hb hts (fun _ h => List.mem_cons_of_mem _ (List.mem_append_right _ h)) hown hK hP 0 rfl rfl 8 (by decide) (hts (.fieldLink RX3 41 "MapsByUseModel" "pairs" "I") (List.mem_of_getElem? (i := 2) (by decide +kernel))) (fun _ h9 => h9) rfl dX3_dropBelow_44 ?_
        refine lv_isub hx hb dX3_dropBelow_47 ?_
        refine m_topi (y := (nI (npZ - n1Z))) (by exact pk_sub (by omega)) ?_
        have hEq : [(yZ, .inr (3, [.ref akZ, .ref avZ, .ref awZ, .ref aoZ, .ref amZ, .ref lkZ, .ref lvZ, .ref luZ, .int (nI n1Z), .int iwZ, .int imZ, .int ilZ, .int irZ, .int iuZ, .int iaZ, .int 0])), (akZ, .inl (I, 200, .inl f1Z)), (avZ, .inl (I, 200, .inl g1Z))] = ([(yZ, .inr (3, [.ref akZ, .ref avZ, .ref awZ, .ref aoZ, .ref amZ, .ref lkZ, .ref lvZ, .ref luZ, .int (nI ((dropM (fun _ v9 => decide (v9 < leastZ)) npZ (fZ, gZ, npZ)).2.2)), .int iwZ, .int imZ, .int ilZ, .int irZ, .int iuZ, .int iaZ, .int 0])), (akZ, .inl (I, 200, .inl ((dropM (fun _ v9 => decide (v9 < leastZ)) npZ (fZ, gZ, npZ)).1))), (avZ, .inl (I, 200, .inl ((dropM (fun _ v9 => decide (v9 < leastZ)) npZ (fZ, gZ, npZ)).2.1)))] : va_W) := (by simp only [hd])
        rw [hEq] at hP hD
        refine m_iret () hx hb hr hlocks hP hD hS dX3_dropBelow_48 (by first | exact Nat.le_of_ble_eq_true rfl | omega) (by first | exact Nat.le_of_ble_eq_true rfl | omega) ?_
        rw [hd]
      · --L1718F
        obtain ⟨iZ, rfl⟩ : ∃ jZ, iZ = jZ + 1 := ⟨iZ - 1, by
          rcases Nat.eq_zero_or_pos iZ with q | q
          · subst q; exact absurd (by decide) c_18
          · omega⟩
        rw [nI_pred] at hl
        refine lv_aload_n hx hb dX3_dropBelow_21 rfl (lv_at hl 0 rfl) ?_
        refine va_get (D := D) (ci := 3) (v := .ref avZ) (C := RX3) (T := TX3) (N := 16) hx hb hts (fun _ h => List.mem_cons_of_mem _ (List.mem_append_right _ h)) hown hK hP 0 rfl rfl 1 (by decide) (hts (.fieldLink RX3 13 "MapsByUseModel" "values" "[I") (List.mem_of_getElem? (i := 3) (by decide +kernel))) (fun _ h9 => h9) rfl dX3_dropBelow_22 ?_
        refine lv_iload_n hx hb dX3_dropBelow_25 rfl (lv_at hl 3 rfl) ?_
        refine m_iald (D := D) (cl := vwCl) hx hb hK hP 2 0 (j := iZ) rfl rfl (by rfl) (by omega) (by omega) dX3_dropBelow_26 ?_
        refine lv_iload_n hx hb dX3_dropBelow_27 rfl (lv_at hl 1 rfl) ?_
        refine lv_icmp_ge (tgt := 36) hx hb dX3_dropBelow_28 (by decide) (fun c_28 => ?_) (fun c_28 => ?_)
        · --L1718F28T
          refine lv_iinc (v := ((nI iZ) + (-1))) (lv' := [(3, .int ((nI iZ) + (-1))), (0, .ref yZ), (1, .int leastZ), (2, .int (nI npZ))]) hx hb dX3_dropBelow_36 hl (k := 3) rfl rfl (by decide) rfl (fun ls hl => ?_)
          refine lv_goto (tgt := 17) hx hb dX3_dropBelow_39 (by decide) ?_
          exact ih_17  iZ n1Z f1Z g1Z _ (by exact (Int32.sub_eq_add_neg _ _).symm) (by omega) (by omega) (by exact hd.trans (congrArg (dropM _ iZ) (if_neg (fun q => absurd (of_decide_eq_true q) (Int32.not_lt.mpr c_28))))) (by omega) _ _ hP hD hS ls (lv_sub hl [1, 2, 3, 0] rfl)
        · --L1718F28F
          refine lv_aload_n hx hb dX3_dropBelow_31 rfl (lv_at hl 0 rfl) ?_
          refine lv_iload_n hx hb dX3_dropBelow_32 rfl (lv_at hl 3 rfl) ?_
          refine m_Vv (As := [.int (nI iZ)]) (wr := []) (ws2 := fun _ => [(yZ, .inr (3, [.ref akZ, .ref avZ, .ref awZ, .ref aoZ, .ref amZ, .ref lkZ, .ref lvZ, .ref luZ, .int (nI (n1Z - 1)), .int iwZ, .int imZ, .int ilZ, .int irZ, .int iuZ, .int iaZ, .int 0])), (akZ, .inl (I, 200, .inl (swF f1Z n1Z iZ))), (avZ, .inl (I, 200, .inl (swF g1Z n1Z iZ)))]) ⟨hx, hb, hml, hown, hts⟩ hA hK hP hD hS hl.1 (c_X3_drops l D I J H.size yZ akZ avZ awZ aoZ amZ lkZ lvZ luZ n1Z iwZ imZ ilZ irZ iuZ iaZ 0 f1Z g1Z iZ (by omega) (by omega)) (cwV 1 hts gX3_dropBelow_X3_drops rfl rfl rfl (by decide +kernel) ⟨Nat.le_of_ble_eq_true rfl, Nat.le_of_ble_eq_true rfl⟩) [0, 1, 2] [] [0, 1, 2] 0 3 rfl rfl rfl rfl rfl (by decide) (by decide) (by decide) (by decide) (fun _ => rfl) rfl rfl (Nat.le_of_ble_eq_true rfl) dX3_dropBelow_33 ⟨(by exact Nat.le_of_ble_eq_true rfl), (by exact Nat.le_of_ble_eq_true rfl)⟩ (fun u_33 H locs hw_33 hP hD hS => ?_)
          clear hw_33
          have hP : va_P D vwCl [(yZ, .inr (3, [.ref akZ, .ref avZ, .ref awZ, .ref aoZ, .ref amZ, .ref lkZ, .ref lvZ, .ref luZ, .int (nI (n1Z - 1)), .int iwZ, .int imZ, .int ilZ, .int irZ, .int iuZ, .int iaZ, .int 0])), (akZ, .inl (I, 200, .inl (swF f1Z n1Z iZ))), (avZ, .inl (I, 200, .inl (swF g1Z n1Z iZ)))] H := hP
          have hD : va_D A [(yZ, .inr (3, [.ref akZ, .ref avZ, .ref awZ, .ref aoZ, .ref amZ, .ref lkZ, .ref lvZ, .ref luZ, .int (nI (n1Z - 1)), .int iwZ, .int imZ, .int ilZ, .int irZ, .int iuZ, .int iaZ, .int 0])), (akZ, .inl (I, 200, .inl (swF f1Z n1Z iZ))), (avZ, .inl (I, 200, .inl (swF g1Z n1Z iZ)))] := hD
          refine lv_iinc (v := ((nI iZ) + (-1))) (lv' := [(3, .int ((nI iZ) + (-1))), (0, .ref yZ), (1, .int leastZ), (2, .int (nI npZ))]) hx hb dX3_dropBelow_36 hl (k := 3) rfl rfl (by decide) rfl (fun ls hl => ?_)
          refine lv_goto (tgt := 17) hx hb dX3_dropBelow_39 (by decide) ?_
          exact ih_17  iZ (n1Z - 1) (swF f1Z n1Z iZ) (swF g1Z n1Z iZ) _ (by exact (Int32.sub_eq_add_neg _ _).symm) (by omega) (by omega) (by exact hd.trans (congrArg (dropM _ iZ) (if_pos (decide_eq_true (Int32.not_le.mp c_28))))) (by omega) _ _ hP hD hS ls (lv_sub hl [1, 2, 3, 0] rfl)
  exact loop_17 (npZ + 1) npZ npZ fZ gZ _ (by first | rfl | simp [nI_1, nI_0]) (by exact Nat.le_refl _) (by exact Nat.le_refl _) (by rfl) (by exact Nat.lt_succ_self _) _ _ hP hD hS ls (lv_sub hl [2, 3, 1, 0] rfl)

set_option maxHeartbeats 4000000 in
set_option maxRecDepth 100000 in
theorem c_X3_putShelf (l : Launch) (D : va_G) (I J : ClassId) (sz : Nat) (yZ : Nat) (akZ : Nat) (avZ : Nat) (awZ : Nat) (aoZ : Nat) (amZ : Nat) (lkZ : Nat) (lvZ : Nat) (luZ : Nat) (npZ : Nat) (iwZ : Int32) (imZ : Int32) (nlZ : Nat) (irZ : Int32) (iuZ : Int32) (iaZ : Int32) (icZ : Int32) (fZ : Nat → Int32) (gZ : Nat → Int32) (fsZ : Nat → Int32) (gsZ : Nat → Int32) (hq : npZ + (cntP (qL fZ npZ fsZ) nlZ) ≤ 200) (hall : (insWL fsZ gsZ nlZ (fZ, gZ, npZ)).2.2 ≤ 200) (hnp : npZ ≤ 200) (hnl : nlZ ≤ 61) : mCi l yX3_putShelf wsX3_putShelf 3 68 0 0 D I J [.ref yZ] [(yZ, .inr (3, [.ref akZ, .ref avZ, .ref awZ, .ref aoZ, .ref amZ, .ref lkZ, .ref lvZ, .ref luZ, .int (nI npZ), .int iwZ, .int imZ, .int (nI nlZ), .int irZ, .int iuZ, .int iaZ, .int icZ])), (akZ, .inl (I, 200, .inl fZ)), (avZ, .inl (I, 200, .inl gZ)), (lkZ, .inl (I, 61, .inl fsZ)), (lvZ, .inl (I, 61, .inl gsZ))] sz (fun (x : Int32) (u : Unit) => x = (nI (insWL fsZ gsZ nlZ (fZ, gZ, npZ)).2.2)) (fun (u : Unit) => [(yZ, .inr (3, [.ref akZ, .ref avZ, .ref awZ, .ref aoZ, .ref amZ, .ref lkZ, .ref lvZ, .ref luZ, .int (nI ((insWL fsZ gsZ nlZ (fZ, gZ, npZ)).2.2)), .int iwZ, .int imZ, .int (nI nlZ), .int irZ, .int iuZ, .int iaZ, .int 0])), (akZ, .inl (I, 200, .inl ((insWL fsZ gsZ nlZ (fZ, gZ, npZ)).1))), (avZ, .inl (I, 200, .inl ((insWL fsZ gsZ nlZ (fZ, gZ, npZ)).2.1))), (lkZ, .inl (I, 61, .inl fsZ)), (lvZ, .inl (I, 61, .inl gsZ))]) := by
  refine m_ofi (cc := cX3_putShelf) (maxL := 3) (ret := (some .int)) (by decide) rfl (Nat.le_of_ble_eq_true rfl) ?_
  intro p e s m args below meth c A ls hx hb hr hlocks hml hts hown hin hK hP hD hA hS hl
  have hl : lv_has ls 3 [(0, .ref yZ)] := hl
  have hP : va_P D vwCl [(yZ, .inr (3, [.ref akZ, .ref avZ, .ref awZ, .ref aoZ, .ref amZ, .ref lkZ, .ref lvZ, .ref luZ, .int (nI npZ), .int iwZ, .int imZ, .int (nI nlZ), .int irZ, .int iuZ, .int iaZ, .int icZ])), (akZ, .inl (I, 200, .inl fZ)), (avZ, .inl (I, 200, .inl gZ)), (lkZ, .inl (I, 61, .inl fsZ)), (lvZ, .inl (I, 61, .inl gsZ))] s.heap := hP
  have hD : va_D A [(yZ, .inr (3, [.ref akZ, .ref avZ, .ref awZ, .ref aoZ, .ref amZ, .ref lkZ, .ref lvZ, .ref luZ, .int (nI npZ), .int iwZ, .int imZ, .int (nI nlZ), .int irZ, .int iuZ, .int iaZ, .int icZ])), (akZ, .inl (I, 200, .inl fZ)), (avZ, .inl (I, 200, .inl gZ)), (lkZ, .inl (I, 61, .inl fsZ)), (lvZ, .inl (I, 61, .inl gsZ))] := hD
  have hle9 : (cntP (qL fZ npZ fsZ) nlZ) ≤ nlZ := cntP_le _ _
  refine lv_iconst (v := 0) hx hb dX3_putShelf_0 (by decide) ?_
  refine lv_istore_n (lv' := [(1, .int 0), (0, .ref yZ)]) hx hb dX3_putShelf_1 rfl hl (by decide) rfl (fun ls hl => ?_)
  refine lv_iconst (v := 0) hx hb dX3_putShelf_2 (by decide) ?_
  refine lv_istore_n (lv' := [(2, .int 0), (1, .int 0), (0, .ref yZ)]) hx hb dX3_putShelf_3 rfl hl (by decide) rfl (fun ls hl => ?_)
  have loop_4 : ∀ (k_4 : Nat) (iZ : Nat) (x_1 : Int32) (ex_1 : x_1 = (nI (cntP (qL fZ npZ fsZ) iZ))) (x_2 : Int32) (ex_2 : x_2 = (nI iZ)) (hi : iZ ≤ nlZ) (hm_ : nlZ - iZ < k_4) (H : Heap) (locs : List Loc) (hP : va_P D vwCl [(yZ, .inr (3, [.ref akZ, .ref avZ, .ref awZ, .ref aoZ, .ref amZ, .ref lkZ, .ref lvZ, .ref luZ, .int (nI npZ), .int iwZ, .int imZ, .int (nI nlZ), .int irZ, .int iuZ, .int iaZ, .int icZ])), (akZ, .inl (I, 200, .inl fZ)), (avZ, .inl (I, 200, .inl gZ)), (lkZ, .inl (I, 61, .inl fsZ)), (lvZ, .inl (I, 61, .inl gsZ))] H) (hD : va_D A [(yZ, .inr (3, [.ref akZ, .ref avZ, .ref awZ, .ref aoZ, .ref amZ, .ref lkZ, .ref lvZ, .ref luZ, .int (nI npZ), .int iwZ, .int imZ, .int (nI nlZ), .int irZ, .int iuZ, .int iaZ, .int icZ])), (akZ, .inl (I, 200, .inl fZ)), (avZ, .inl (I, 200, .inl gZ)), (lkZ, .inl (I, 61, .inl fsZ)), (lvZ, .inl (I, 61, .inl gsZ))]) (hS : va_S A s.heap H locs) (ls : Array Slot) (hl : lv_has ls 3 [(0, .ref yZ), (1, .int x_1), (2, .int x_2)]), W p l e (mRm 3 68 0 0) s m args below meth c H locs 0 0 (MQ below (va_Qi (fun (x : Int32) (u : Unit) => x = (nI (insWL fsZ gsZ nlZ (fZ, gZ, npZ)).2.2)) (mB D (fun (u : Unit) => [(yZ, .inr (3, [.ref akZ, .ref avZ, .ref awZ, .ref aoZ, .ref amZ, .ref lkZ, .ref lvZ, .ref luZ, .int (nI ((insWL fsZ gsZ nlZ (fZ, gZ, npZ)).2.2)), .int iwZ, .int imZ, .int (nI nlZ), .int irZ, .int iuZ, .int iaZ, .int 0])), (akZ, .inl (I, 200, .inl ((insWL fsZ gsZ nlZ (fZ, gZ, npZ)).1))), (avZ, .inl (I, 200, .inl ((insWL fsZ gsZ nlZ (fZ, gZ, npZ)).2.1))), (lkZ, .inl (I, 61, .inl fsZ)), (lvZ, .inl (I, 61, .inl gsZ))]) A) A) args s 0 0 A) (F0 m 4 ls []) := by
    intro k_4
    induction k_4 with
    | zero => intro iZ x_1 ex_1 x_2 ex_2 hi hm_; exact absurd hm_ (Nat.not_lt_zero _)
    | succ k_4 ih_4 =>
      intro iZ x_1 ex_1 x_2 ex_2 hi hm_ H locs hP hD hS ls hl
      subst ex_1
      subst ex_2
      refine lv_iload_n hx hb dX3_putShelf_4 rfl (lv_at hl 2 rfl) ?_
      refine lv_aload_n hx hb dX3_putShelf_5 rfl (lv_at hl 0 rfl) ?_
      refine va_get (D := D) (ci := 3) (v := .int (nI nlZ)) (C := RX3) (T := TX3) (N := 16) hx hb hts (fun _ h => List.mem_cons_of_mem _ (List.mem_append_right _ h)) hown hK hP 0 rfl rfl 11 (by decide) (hts (.fieldLink RX3 81 "MapsByUseModel" "laid" "I") (List.mem_of_getElem? (i := 1) (by decide +kernel))) (fun _ h9 => h9) rfl dX3_putShelf_6 ?_
      refine lv_icmp_ge (tgt := 39) hx hb dX3_putShelf_9 (by decide) (fun c_9 => ?_) (fun c_9 => ?_)
      · --L49T
        have qq := (nI_leI (by omega) (by omega)).mp c_9
        have ee : iZ = nlZ := by omega
        rw [ee] at hl
        refine lv_aload_n hx hb dX3_putShelf_39 rfl (lv_at hl 0 rfl) ?_
        refine lv_aload_n hx hb dX3_putShelf_40 rfl (lv_at hl 0 rfl) ?_
        refine va_get (D := D) (ci := 3) (v := .int (nI npZ)) (C := RX3) (T := TX3) (N := 16) hx hb hts (fun _ h => List.mem_cons_of_mem _ (List.mem_append_right _ h)) hown hK hP 0 rfl rfl 8 (by decide) (hts (.fieldLink RX3 41 "MapsByUseModel" "pairs" "I") (List.mem_of_getElem? (i := 3) (by decide +kernel))) (fun _ h9 => h9) rfl dX3_putShelf_41 ?_
        refine lv_iload_n hx hb dX3_putShelf_44 rfl (lv_at hl 1 rfl) ?_
        refine lv_iadd hx hb dX3_putShelf_45 ?_
        refine m_topi (y := (nI (npZ + (cntP (qL fZ npZ fsZ) nlZ)))) (by exact nI_add _ _) ?_
        refine lv_sipush (v := 200) hx hb dX3_putShelf_46 (by decide) ?_
        refine lv_icmp_le (tgt := 56) hx hb dX3_putShelf_49 (by decide) (fun c_49 => ?_) (fun c_49 => ?_)
        · --L49T49T
          refine lv_iconst (v := 0) hx hb dX3_putShelf_56 (by decide) ?_
          refine m_Vi (As := [.int 0]) (wr := [(akZ, .inl (I, 200, .inl fZ)), (avZ, .inl (I, 200, .inl gZ)), (lkZ, .inl (I, 61, .inl fsZ)), (lvZ, .inl (I, 61, .inl gsZ))]) (ws2 := fun _ => [(yZ, .inr (3, [.ref akZ, .ref avZ, .ref awZ, .ref aoZ, .ref amZ, .ref lkZ, .ref lvZ, .ref luZ, .int (nI npZ), .int iwZ, .int imZ, .int (nI nlZ), .int irZ, .int iuZ, .int iaZ, .int 0])), (akZ, .inl (I, 200, .inl fZ)), (avZ, .inl (I, 200, .inl gZ)), (lkZ, .inl (I, 61, .inl fsZ)), (lvZ, .inl (I, 61, .inl gsZ))]) ⟨hx, hb, hml, hown, hts⟩ hA hK hP hD hS hl.1 (c_X3_fails l D I J H.size yZ akZ avZ awZ aoZ amZ lkZ lvZ luZ (nI npZ) iwZ imZ (nI nlZ) irZ iuZ iaZ icZ 0 ) (cwV 1 hts gX3_putShelf_X3_fails rfl rfl rfl (by decide +kernel) ⟨Nat.le_of_ble_eq_true rfl, Nat.le_of_ble_eq_true rfl⟩) [0] [1, 2, 3, 4] [4, 0, 1, 2, 3] 0 3 rfl rfl rfl rfl rfl (by decide) (by decide) (by decide) (by decide) (fun _ => rfl) rfl rfl (Nat.le_of_ble_eq_true rfl) dX3_putShelf_57 ⟨(by exact Nat.le_of_ble_eq_true rfl), (by exact Nat.le_of_ble_eq_true rfl)⟩ (fun r_57 u_57 H locs hw_57 hP hD hS => ?_)
          try dsimp only at hw_57
          have hP : va_P D vwCl [(yZ, .inr (3, [.ref akZ, .ref avZ, .ref awZ, .ref aoZ, .ref amZ, .ref lkZ, .ref lvZ, .ref luZ, .int (nI npZ), .int iwZ, .int imZ, .int (nI nlZ), .int irZ, .int iuZ, .int iaZ, .int 0])), (akZ, .inl (I, 200, .inl fZ)), (avZ, .inl (I, 200, .inl gZ)), (lkZ, .inl (I, 61, .inl fsZ)), (lvZ, .inl (I, 61, .inl gsZ))] H := hP
          have hD : va_D A [(yZ, .inr (3, [.ref akZ, .ref avZ, .ref awZ, .ref aoZ, .ref amZ, .ref lkZ, .ref lvZ, .ref luZ, .int (nI npZ), .int iwZ, .int imZ, .int (nI nlZ), .int irZ, .int iuZ, .int iaZ, .int 0])), (akZ, .inl (I, 200, .inl fZ)), (avZ, .inl (I, 200, .inl gZ)), (lkZ, .inl (I, 61, .inl fsZ)), (lvZ, .inl (I, 61, .inl gsZ))] := hD
          subst hw_57
          refine lv_if_eq (tgt := 65) hx hb dX3_putShelf_60 (by decide) (fun c_60 => ?_) (fun c_60 => ?_)
          · --L49T49T60T
            refine lv_iconst (v := 0) hx hb dX3_putShelf_65 (by decide) ?_
            refine lv_istore_n (lv' := [(2, .int 0), (0, .ref yZ), (1, .int (nI (cntP (qL fZ npZ fsZ) nlZ)))]) hx hb dX3_putShelf_66 rfl hl (by decide) rfl (fun ls hl => ?_)
            have loop_67 : ∀ (k_67 : Nat) (iZ : Nat) (n1Z : Nat) (f1Z : Nat → Int32) (g1Z : Nat → Int32) (x_2 : Int32) (ex_2 : x_2 = (nI iZ)) (hi : iZ ≤ nlZ) (hd : insWL fsZ gsZ iZ (fZ, gZ, npZ) = (f1Z, g1Z, n1Z)) (hm_ : nlZ - iZ < k_67) (H : Heap) (locs : List Loc) (hP : va_P D vwCl [(yZ, .inr (3, [.ref akZ, .ref avZ, .ref awZ, .ref aoZ, .ref amZ, .ref lkZ, .ref lvZ, .ref luZ, .int (nI n1Z), .int iwZ, .int imZ, .int (nI nlZ), .int irZ, .int iuZ, .int iaZ, .int 0])), (akZ, .inl (I, 200, .inl f1Z)), (avZ, .inl (I, 200, .inl g1Z)), (lkZ, .inl (I, 61, .inl fsZ)), (lvZ, .inl (I, 61, .inl gsZ))] H) (hD : va_D A [(yZ, .inr (3, [.ref akZ, .ref avZ, .ref awZ, .ref aoZ, .ref amZ, .ref lkZ, .ref lvZ, .ref luZ, .int (nI n1Z), .int iwZ, .int imZ, .int (nI nlZ), .int irZ, .int iuZ, .int iaZ, .int 0])), (akZ, .inl (I, 200, .inl f1Z)), (avZ, .inl (I, 200, .inl g1Z)), (lkZ, .inl (I, 61, .inl fsZ)), (lvZ, .inl (I, 61, .inl gsZ))]) (hS : va_S A s.heap H locs) (ls : Array Slot) (hl : lv_has ls 3 [(0, .ref yZ), (2, .int x_2)]), W p l e (mRm 3 68 0 0) s m args below meth c H locs 0 0 (MQ below (va_Qi (fun (x : Int32) (u : Unit) => x = (nI (insWL fsZ gsZ nlZ (fZ, gZ, npZ)).2.2)) (mB D (fun (u : Unit) => [(yZ, .inr (3, [.ref akZ, .ref avZ, .ref awZ, .ref aoZ, .ref amZ, .ref lkZ, .ref lvZ, .ref luZ, .int (nI ((insWL fsZ gsZ nlZ (fZ, gZ, npZ)).2.2)), .int iwZ, .int imZ, .int (nI nlZ), .int irZ, .int iuZ, .int iaZ, .int 0])), (akZ, .inl (I, 200, .inl ((insWL fsZ gsZ nlZ (fZ, gZ, npZ)).1))), (avZ, .inl (I, 200, .inl ((insWL fsZ gsZ nlZ (fZ, gZ, npZ)).2.1))), (lkZ, .inl (I, 61, .inl fsZ)), (lvZ, .inl (I, 61, .inl gsZ))]) A) A) args s 0 0 A) (F0 m 67 ls []) := by
              intro k_67
              induction k_67 with
              | zero => intro iZ n1Z f1Z g1Z x_2 ex_2 hi hd hm_; exact absurd hm_ (Nat.not_lt_zero _)
              | succ k_67 ih_67 =>
                intro iZ n1Z f1Z g1Z x_2 ex_2 hi hd hm_ H locs hP hD hS ls hl
                subst ex_2
                have hb1 : n1Z ≤ 200 := by
                  have hb2 := insWL_mono fsZ gsZ (fZ, gZ, npZ) hi
                  rw [hd] at hb2
                  exact Nat.le_trans hb2 hall
                refine lv_iload_n hx hb dX3_putShelf_67 rfl (lv_at hl 1 rfl) ?_
                refine lv_aload_n hx hb dX3_putShelf_68 rfl (lv_at hl 0 rfl) ?_
                refine va_get (D := D) (ci := 3) (v := .int (nI nlZ)) (C := RX3) (T := TX3) (N := 16) hx hb hts (fun _ h => List.mem_cons_of_mem _ (List.mem_append_right _ h)) hown hK hP 0 rfl rfl 11 (by decide) (hts (.fieldLink RX3 81 "MapsByUseModel" "laid" "I") (List.mem_of_getElem? (i := 1) (by decide +kernel))) (fun _ h9 => h9) rfl dX3_putShelf_69 ?_
                refine lv_icmp_ge (tgt := 97) hx hb dX3_putShelf_72 (by decide) (fun c_72 => ?_) (fun c_72 => ?_)
                · --L49T49T60TL6772T
                  have qq := (nI_leI (by omega) (by omega)).mp c_72
                  have ee : iZ = nlZ := by omega
                  rw [ee] at hd
                  refine lv_aload_n hx hb dX3_putShelf_97 rfl (lv_at hl 0 rfl) ?_
                  refine va_get (D := D) (ci := 3) (v := .int (nI n1Z)) (C := RX3) (T := TX3) (N := 16) hx hb hts (fun _ h => List.mem_cons_of_mem _ (List.mem_append_right _ h)) hown hK hP 0 rfl rfl 8 (by decide) (hts (.fieldLink RX3 41 "MapsByUseModel" "pairs" "I") (List.mem_of_getElem? (i := 3) (by decide +kernel))) (fun _ h9 => h9) rfl dX3_putShelf_98 ?_
                  have hEq : [(yZ, .inr (3, [.ref akZ, .ref avZ, .ref awZ, .ref aoZ, .ref amZ, .ref lkZ, .ref lvZ, .ref luZ, .int (nI n1Z), .int iwZ, .int imZ, .int (nI nlZ), .int irZ, .int iuZ, .int iaZ, .int 0])), (akZ, .inl (I, 200, .inl f1Z)), (avZ, .inl (I, 200, .inl g1Z)), (lkZ, .inl (I, 61, .inl fsZ)), (lvZ, .inl (I, 61, .inl gsZ))] = ([(yZ, .inr (3, [.ref akZ, .ref avZ, .ref awZ, .ref aoZ, .ref amZ, .ref lkZ, .ref lvZ, .ref luZ, .int (nI ((insWL fsZ gsZ nlZ (fZ, gZ, npZ)).2.2)), .int iwZ, .int imZ, .int (nI nlZ), .int irZ, .int iuZ, .int iaZ, .int 0])), (akZ, .inl (I, 200, .inl ((insWL fsZ gsZ nlZ (fZ, gZ, npZ)).1))), (avZ, .inl (I, 200, .inl ((insWL fsZ gsZ nlZ (fZ, gZ, npZ)).2.1))), (lkZ, .inl (I, 61, .inl fsZ)), (lvZ, .inl (I, 61, .inl gsZ))] : va_W) := (by simp only [hd])
                  rw [hEq] at hP hD
                  refine m_iret () hx hb hr hlocks hP hD hS dX3_putShelf_101 (by first | exact Nat.le_of_ble_eq_true rfl | omega) (by first | exact Nat.le_of_ble_eq_true rfl | omega) ?_
                  rw [hd]
                · --L49T49T60TL6772F
                  have hlt : iZ < nlZ := by
                    rcases Nat.lt_or_ge iZ nlZ with q | q
                    · exact q
                    · exact absurd ((nI_leI (by omega) (by omega)).mpr q) c_72
                  refine lv_aload_n hx hb dX3_putShelf_75 rfl (lv_at hl 0 rfl) ?_
                  refine lv_aload_n hx hb dX3_putShelf_76 rfl (lv_at hl 0 rfl) ?_
                  refine va_get (D := D) (ci := 3) (v := .ref lkZ) (C := RX3) (T := TX3) (N := 16) hx hb hts (fun _ h => List.mem_cons_of_mem _ (List.mem_append_right _ h)) hown hK hP 0 rfl rfl 5 (by decide) (hts (.fieldLink RX3 25 "MapsByUseModel" "laidKeys" "[I") (List.mem_of_getElem? (i := 2) (by decide +kernel))) (fun _ h9 => h9) rfl dX3_putShelf_77 ?_
                  refine lv_iload_n hx hb dX3_putShelf_80 rfl (lv_at hl 1 rfl) ?_
                  refine m_iald (D := D) (cl := vwCl) hx hb hK hP 3 0 (j := iZ) rfl rfl (by rfl) (by omega) (by omega) dX3_putShelf_81 ?_
                  refine lv_aload_n hx hb dX3_putShelf_82 rfl (lv_at hl 0 rfl) ?_
                  refine va_get (D := D) (ci := 3) (v := .ref lvZ) (C := RX3) (T := TX3) (N := 16) hx hb hts (fun _ h => List.mem_cons_of_mem _ (List.mem_append_right _ h)) hown hK hP 0 rfl rfl 6 (by decide) (hts (.fieldLink RX3 28 "MapsByUseModel" "laidValues" "[I") (List.mem_of_getElem? (i := 4) (by decide +kernel))) (fun _ h9 => h9) rfl dX3_putShelf_83 ?_
                  refine lv_iload_n hx hb dX3_putShelf_86 rfl (lv_at hl 1 rfl) ?_
                  refine m_iald (D := D) (cl := vwCl) hx hb hK hP 4 0 (j := iZ) rfl rfl (by rfl) (by omega) (by omega) dX3_putShelf_87 ?_
                  refine m_Vv (As := [.int (fsZ iZ), .int (gsZ iZ)]) (wr := [(lkZ, .inl (I, 61, .inl fsZ)), (lvZ, .inl (I, 61, .inl gsZ))]) (ws2 := fun _ => [(yZ, .inr (3, [.ref akZ, .ref avZ, .ref awZ, .ref aoZ, .ref amZ, .ref lkZ, .ref lvZ, .ref luZ, .int (nI (insN n1Z (rL f1Z (fsZ iZ) n1Z))), .int iwZ, .int imZ, .int (nI nlZ), .int irZ, .int iuZ, .int iaZ, .int 0])), (akZ, .inl (I, 200, .inl (insF f1Z n1Z (fsZ iZ) (rL f1Z (fsZ iZ) n1Z)))), (avZ, .inl (I, 200, .inl (insG g1Z n1Z (gsZ iZ) (rL f1Z (fsZ iZ) n1Z)))), (lkZ, .inl (I, 61, .inl fsZ)), (lvZ, .inl (I, 61, .inl gsZ))]) ⟨hx, hb, hml, hown, hts⟩ hA hK hP hD hS hl.1 (c_X3_lays l D I J H.size yZ akZ avZ awZ aoZ amZ lkZ lvZ luZ n1Z iwZ imZ (nI nlZ) irZ iuZ iaZ 0 f1Z g1Z (fsZ iZ) (gsZ iZ) (by intro ho; exact ins2L_lt (s := (f1Z, g1Z, n1Z)) (v := gsZ iZ) (by rw [← hd]; exact Nat.le_trans (insWL_mono fsZ gsZ (fZ, gZ, npZ) (Nat.succ_le_of_lt hlt)) hall) ho) (by omega)) (cwV 2 hts gX3_putShelf_X3_lays rfl rfl rfl (by decide +kernel) ⟨Nat.le_of_ble_eq_true rfl, Nat.le_of_ble_eq_true rfl⟩) [0, 1, 2] [3, 4] [2, 3, 4, 0, 1] 0 3 rfl rfl rfl rfl rfl (by decide) (by decide) (by decide) (by decide) (fun _ => rfl) rfl rfl (Nat.le_of_ble_eq_true rfl) dX3_putShelf_88 ⟨(by exact Nat.le_of_ble_eq_true rfl), (by exact Nat.le_of_ble_eq_true rfl)⟩ (fun u_88 H locs hw_88 hP hD hS => ?_)
                  clear hw_88
                  have hP : va_P D vwCl [(yZ, .inr (3, [.ref akZ, .ref avZ, .ref awZ, .ref aoZ, .ref amZ, .ref lkZ, .ref lvZ, .ref luZ, .int (nI (insN n1Z (rL f1Z (fsZ iZ) n1Z))), .int iwZ, .int imZ, .int (nI nlZ), .int irZ, .int iuZ, .int iaZ, .int 0])), (akZ, .inl (I, 200, .inl (insF f1Z n1Z (fsZ iZ) (rL f1Z (fsZ iZ) n1Z)))), (avZ, .inl (I, 200, .inl (insG g1Z n1Z (gsZ iZ) (rL f1Z (fsZ iZ) n1Z)))), (lkZ, .inl (I, 61, .inl fsZ)), (lvZ, .inl (I, 61, .inl gsZ))] H := hP
                  have hD : va_D A [(yZ, .inr (3, [.ref akZ, .ref avZ, .ref awZ, .ref aoZ, .ref amZ, .ref lkZ, .ref lvZ, .ref luZ, .int (nI (insN n1Z (rL f1Z (fsZ iZ) n1Z))), .int iwZ, .int imZ, .int (nI nlZ), .int irZ, .int iuZ, .int iaZ, .int 0])), (akZ, .inl (I, 200, .inl (insF f1Z n1Z (fsZ iZ) (rL f1Z (fsZ iZ) n1Z)))), (avZ, .inl (I, 200, .inl (insG g1Z n1Z (gsZ iZ) (rL f1Z (fsZ iZ) n1Z)))), (lkZ, .inl (I, 61, .inl fsZ)), (lvZ, .inl (I, 61, .inl gsZ))] := hD
                  refine lv_iinc (v := (nI (iZ + 1))) (lv' := [(2, .int (nI (iZ + 1))), (0, .ref yZ)]) hx hb dX3_putShelf_91 hl (k := 1) rfl (nI_1 _) (by decide) rfl (fun ls hl => ?_)
                  refine lv_goto (tgt := 67) hx hb dX3_putShelf_94 (by decide) ?_
                  exact ih_67  (iZ + 1) (insN n1Z (rL f1Z (fsZ iZ) n1Z)) (insF f1Z n1Z (fsZ iZ) (rL f1Z (fsZ iZ) n1Z)) (insG g1Z n1Z (gsZ iZ) (rL f1Z (fsZ iZ) n1Z)) _ (by rfl) (by first | assumption | omega | rfl) (by show ins2L (insWL _ _ iZ _) _ _ = _; rw [hd]; rfl) (by omega) _ _ hP hD hS ls (lv_sub hl [1, 0] rfl)
            exact loop_67 (nlZ - 0 + 1) 0 npZ fZ gZ _ (by first | rfl | simp [nI_1, nI_0]) (by first | assumption | omega | rfl) (by rfl) (by exact Nat.lt_succ_self _) _ _ hP hD hS ls (lv_sub hl [1, 0] rfl)
          · --L49T49T60F
            exact absurd (by decide) c_60
        · --L49T49F
          exact absurd ((nI_leI (b := 200) (by omega) (by omega)).mpr hq) c_49
      · --L49F
        have hlt : iZ < nlZ := by
          rcases Nat.lt_or_ge iZ nlZ with q | q
          · exact q
          · exact absurd ((nI_leI (by omega) (by omega)).mpr q) c_9
        refine lv_iload_n hx hb dX3_putShelf_12 rfl (lv_at hl 1 rfl) ?_
        refine lv_aload_n hx hb dX3_putShelf_13 rfl (lv_at hl 0 rfl) ?_
        refine lv_aload_n hx hb dX3_putShelf_14 rfl (lv_at hl 0 rfl) ?_
        refine va_get (D := D) (ci := 3) (v := .ref lkZ) (C := RX3) (T := TX3) (N := 16) hx hb hts (fun _ h => List.mem_cons_of_mem _ (List.mem_append_right _ h)) hown hK hP 0 rfl rfl 5 (by decide) (hts (.fieldLink RX3 25 "MapsByUseModel" "laidKeys" "[I") (List.mem_of_getElem? (i := 2) (by decide +kernel))) (fun _ h9 => h9) rfl dX3_putShelf_15 ?_
        refine lv_iload_n hx hb dX3_putShelf_18 rfl (lv_at hl 2 rfl) ?_
        refine m_iald (D := D) (cl := vwCl) hx hb hK hP 3 0 (j := iZ) rfl rfl (by rfl) (by omega) (by omega) dX3_putShelf_19 ?_
        refine m_Vi (As := [.int (fsZ iZ)]) (wr := [(avZ, .inl (I, 200, .inl gZ)), (lkZ, .inl (I, 61, .inl fsZ)), (lvZ, .inl (I, 61, .inl gsZ))]) (ws2 := fun _ => [(yZ, .inr (3, [.ref akZ, .ref avZ, .ref awZ, .ref aoZ, .ref amZ, .ref lkZ, .ref lvZ, .ref luZ, .int (nI npZ), .int iwZ, .int imZ, .int (nI nlZ), .int irZ, .int iuZ, .int iaZ, .int icZ])), (akZ, .inl (I, 200, .inl fZ)), (avZ, .inl (I, 200, .inl gZ)), (lkZ, .inl (I, 61, .inl fsZ)), (lvZ, .inl (I, 61, .inl gsZ))]) ⟨hx, hb, hml, hown, hts⟩ hA hK hP hD hS hl.1 (c_X3_at l D I J H.size yZ akZ avZ awZ aoZ amZ lkZ lvZ luZ npZ iwZ imZ (nI nlZ) irZ iuZ iaZ icZ fZ (fsZ iZ) (by omega)) (cwV 1 hts gX3_putShelf_X3_at rfl rfl rfl (by decide +kernel) ⟨Nat.le_of_ble_eq_true rfl, Nat.le_of_ble_eq_true rfl⟩) [0, 1] [2, 3, 4] [3, 4, 0, 1, 2] 0 3 rfl rfl rfl rfl rfl (by decide) (by decide) (by decide) (by decide) (fun _ => rfl) rfl rfl (Nat.le_of_ble_eq_true rfl) dX3_putShelf_20 ⟨(by exact Nat.le_of_ble_eq_true rfl), (by exact Nat.le_of_ble_eq_true rfl)⟩ (fun r_20 u_20 H locs hw_20 hP hD hS => ?_)
        try dsimp only at hw_20
        have hP : va_P D vwCl [(yZ, .inr (3, [.ref akZ, .ref avZ, .ref awZ, .ref aoZ, .ref amZ, .ref lkZ, .ref lvZ, .ref luZ, .int (nI npZ), .int iwZ, .int imZ, .int (nI nlZ), .int irZ, .int iuZ, .int iaZ, .int icZ])), (akZ, .inl (I, 200, .inl fZ)), (avZ, .inl (I, 200, .inl gZ)), (lkZ, .inl (I, 61, .inl fsZ)), (lvZ, .inl (I, 61, .inl gsZ))] H := hP
        have hD : va_D A [(yZ, .inr (3, [.ref akZ, .ref avZ, .ref awZ, .ref aoZ, .ref amZ, .ref lkZ, .ref lvZ, .ref luZ, .int (nI npZ), .int iwZ, .int imZ, .int (nI nlZ), .int irZ, .int iuZ, .int iaZ, .int icZ])), (akZ, .inl (I, 200, .inl fZ)), (avZ, .inl (I, 200, .inl gZ)), (lkZ, .inl (I, 61, .inl fsZ)), (lvZ, .inl (I, 61, .inl gsZ))] := hD
        subst hw_20
        refine lv_if_ge (tgt := 30) hx hb dX3_putShelf_23 (by decide) (fun c_23 => ?_) (fun c_23 => ?_)
        · --L49F23T
          refine lv_iconst (v := 0) hx hb dX3_putShelf_30 (by decide) ?_
          refine lv_iadd hx hb dX3_putShelf_31 ?_
          refine m_topi (y := (nI (cntP (qL fZ npZ fsZ) (iZ + 1)))) (by obtain ⟨jZ, ho⟩ := iO_ges c_23; rw [cntP_f (qL_f ho)]; exact Int32.add_zero _) ?_
          refine lv_istore_n (lv' := [(1, .int (nI (cntP (qL fZ npZ fsZ) (iZ + 1)))), (0, .ref yZ), (2, .int (nI iZ))]) hx hb dX3_putShelf_32 rfl hl (by decide) rfl (fun ls hl => ?_)
          refine lv_iinc (v := (nI (iZ + 1))) (lv' := [(2, .int (nI (iZ + 1))), (1, .int (nI (cntP (qL fZ npZ fsZ) (iZ + 1)))), (0, .ref yZ)]) hx hb dX3_putShelf_33 hl (k := 2) rfl (nI_1 _) (by decide) rfl (fun ls hl => ?_)
          refine lv_goto (tgt := 4) hx hb dX3_putShelf_36 (by decide) ?_
          exact ih_4  (iZ + 1) _ (by rfl) _ (by rfl) (by first | assumption | omega | rfl) (by omega) _ _ hP hD hS ls (lv_sub hl [2, 1, 0] rfl)
        · --L49F23F
          refine lv_iconst (v := 1) hx hb dX3_putShelf_26 (by decide) ?_
          refine lv_goto (tgt := 31) hx hb dX3_putShelf_27 (by decide) ?_
          refine lv_iadd hx hb dX3_putShelf_31 ?_
          refine m_topi (y := (nI (cntP (qL fZ npZ fsZ) (iZ + 1)))) (by rw [cntP_t (qL_t (iO_ge c_23 (rL_lt (by omega))))]; exact nI_1 _) ?_
          refine lv_istore_n (lv' := [(1, .int (nI (cntP (qL fZ npZ fsZ) (iZ + 1)))), (0, .ref yZ), (2, .int (nI iZ))]) hx hb dX3_putShelf_32 rfl hl (by decide) rfl (fun ls hl => ?_)
          refine lv_iinc (v := (nI (iZ + 1))) (lv' := [(2, .int (nI (iZ + 1))), (1, .int (nI (cntP (qL fZ npZ fsZ) (iZ + 1)))), (0, .ref yZ)]) hx hb dX3_putShelf_33 hl (k := 2) rfl (nI_1 _) (by decide) rfl (fun ls hl => ?_)
          refine lv_goto (tgt := 4) hx hb dX3_putShelf_36 (by decide) ?_
          exact ih_4  (iZ + 1) _ (by rfl) _ (by rfl) (by first | assumption | omega | rfl) (by omega) _ _ hP hD hS ls (lv_sub hl [2, 1, 0] rfl)
  exact loop_4 (nlZ - 0 + 1) 0 _ (by first | rfl | simp [nI_1, nI_0]) _ (by first | rfl | simp [nI_1, nI_0]) (by first | assumption | omega | rfl) (by exact Nat.lt_succ_self _) _ _ hP hD hS ls (lv_sub hl [2, 1, 0] rfl)

set_option maxHeartbeats 4000000 in
set_option maxRecDepth 100000 in
theorem c_X3_putShelf_F (l : Launch) (D : va_G) (I J : ClassId) (sz : Nat) (yZ : Nat) (akZ : Nat) (avZ : Nat) (awZ : Nat) (aoZ : Nat) (amZ : Nat) (lkZ : Nat) (lvZ : Nat) (luZ : Nat) (npZ : Nat) (iwZ : Int32) (imZ : Int32) (nlZ : Nat) (irZ : Int32) (iuZ : Int32) (iaZ : Int32) (icZ : Int32) (fZ : Nat → Int32) (fsZ : Nat → Int32) (hq : 200 < npZ + (cntP (qL fZ npZ fsZ) nlZ)) (hnp : npZ ≤ 200) (hnl : nlZ ≤ 61) : mCi l yX3_putShelf wsX3_putShelf 2 45 0 0 D I J [.ref yZ] [(yZ, .inr (3, [.ref akZ, .ref avZ, .ref awZ, .ref aoZ, .ref amZ, .ref lkZ, .ref lvZ, .ref luZ, .int (nI npZ), .int iwZ, .int imZ, .int (nI nlZ), .int irZ, .int iuZ, .int iaZ, .int icZ])), (akZ, .inl (I, 200, .inl fZ)), (lkZ, .inl (I, 61, .inl fsZ))] sz (fun (x : Int32) (u : Unit) => x = 0) (fun (u : Unit) => [(yZ, .inr (3, [.ref akZ, .ref avZ, .ref awZ, .ref aoZ, .ref amZ, .ref lkZ, .ref lvZ, .ref luZ, .int (nI npZ), .int iwZ, .int imZ, .int (nI nlZ), .int irZ, .int iuZ, .int iaZ, .int 1])), (akZ, .inl (I, 200, .inl fZ)), (lkZ, .inl (I, 61, .inl fsZ))]) := by
  refine m_ofi (cc := cX3_putShelf) (maxL := 3) (ret := (some .int)) (by decide) rfl (Nat.le_of_ble_eq_true rfl) ?_
  intro p e s m args below meth c A ls hx hb hr hlocks hml hts hown hin hK hP hD hA hS hl
  have hl : lv_has ls 3 [(0, .ref yZ)] := hl
  have hP : va_P D vwCl [(yZ, .inr (3, [.ref akZ, .ref avZ, .ref awZ, .ref aoZ, .ref amZ, .ref lkZ, .ref lvZ, .ref luZ, .int (nI npZ), .int iwZ, .int imZ, .int (nI nlZ), .int irZ, .int iuZ, .int iaZ, .int icZ])), (akZ, .inl (I, 200, .inl fZ)), (lkZ, .inl (I, 61, .inl fsZ))] s.heap := hP
  have hD : va_D A [(yZ, .inr (3, [.ref akZ, .ref avZ, .ref awZ, .ref aoZ, .ref amZ, .ref lkZ, .ref lvZ, .ref luZ, .int (nI npZ), .int iwZ, .int imZ, .int (nI nlZ), .int irZ, .int iuZ, .int iaZ, .int icZ])), (akZ, .inl (I, 200, .inl fZ)), (lkZ, .inl (I, 61, .inl fsZ))] := hD
  have hle9 : (cntP (qL fZ npZ fsZ) nlZ) ≤ nlZ := cntP_le _ _
  refine lv_iconst (v := 0) hx hb dX3_putShelf_0 (by decide) ?_
  refine lv_istore_n (lv' := [(1, .int 0), (0, .ref yZ)]) hx hb dX3_putShelf_1 rfl hl (by decide) rfl (fun ls hl => ?_)
  refine lv_iconst (v := 0) hx hb dX3_putShelf_2 (by decide) ?_
  refine lv_istore_n (lv' := [(2, .int 0), (1, .int 0), (0, .ref yZ)]) hx hb dX3_putShelf_3 rfl hl (by decide) rfl (fun ls hl => ?_)
  have loop_4 : ∀ (k_4 : Nat) (iZ : Nat) (x_1 : Int32) (ex_1 : x_1 = (nI (cntP (qL fZ npZ fsZ) iZ))) (x_2 : Int32) (ex_2 : x_2 = (nI iZ)) (hi : iZ ≤ nlZ) (hm_ : nlZ - iZ < k_4) (H : Heap) (locs : List Loc) (hP : va_P D vwCl [(yZ, .inr (3, [.ref akZ, .ref avZ, .ref awZ, .ref aoZ, .ref amZ, .ref lkZ, .ref lvZ, .ref luZ, .int (nI npZ), .int iwZ, .int imZ, .int (nI nlZ), .int irZ, .int iuZ, .int iaZ, .int icZ])), (akZ, .inl (I, 200, .inl fZ)), (lkZ, .inl (I, 61, .inl fsZ))] H) (hD : va_D A [(yZ, .inr (3, [.ref akZ, .ref avZ, .ref awZ, .ref aoZ, .ref amZ, .ref lkZ, .ref lvZ, .ref luZ, .int (nI npZ), .int iwZ, .int imZ, .int (nI nlZ), .int irZ, .int iuZ, .int iaZ, .int icZ])), (akZ, .inl (I, 200, .inl fZ)), (lkZ, .inl (I, 61, .inl fsZ))]) (hS : va_S A s.heap H locs) (ls : Array Slot) (hl : lv_has ls 3 [(0, .ref yZ), (1, .int x_1), (2, .int x_2)]), W p l e (mRm 2 45 0 0) s m args below meth c H locs 0 0 (MQ below (va_Qi (fun (x : Int32) (u : Unit) => x = 0) (mB D (fun (u : Unit) => [(yZ, .inr (3, [.ref akZ, .ref avZ, .ref awZ, .ref aoZ, .ref amZ, .ref lkZ, .ref lvZ, .ref luZ, .int (nI npZ), .int iwZ, .int imZ, .int (nI nlZ), .int irZ, .int iuZ, .int iaZ, .int 1])), (akZ, .inl (I, 200, .inl fZ)), (lkZ, .inl (I, 61, .inl fsZ))]) A) A) args s 0 0 A) (F0 m 4 ls []) := by
    intro k_4
    induction k_4 with
    | zero => intro iZ x_1 ex_1 x_2 ex_2 hi hm_; exact absurd hm_ (Nat.not_lt_zero _)
    | succ k_4 ih_4 =>
      intro iZ x_1 ex_1 x_2 ex_2 hi hm_ H locs hP hD hS ls hl
      subst ex_1
      subst ex_2
      refine lv_iload_n hx hb dX3_putShelf_4 rfl (lv_at hl 2 rfl) ?_
      refine lv_aload_n hx hb dX3_putShelf_5 rfl (lv_at hl 0 rfl) ?_
      refine va_get (D := D) (ci := 3) (v := .int (nI nlZ)) (C := RX3) (T := TX3) (N := 16) hx hb hts (fun _ h => List.mem_cons_of_mem _ (List.mem_append_right _ h)) hown hK hP 0 rfl rfl 11 (by decide) (hts (.fieldLink RX3 81 "MapsByUseModel" "laid" "I") (List.mem_of_getElem? (i := 1) (by decide +kernel))) (fun _ h9 => h9) rfl dX3_putShelf_6 ?_
      refine lv_icmp_ge (tgt := 39) hx hb dX3_putShelf_9 (by decide) (fun c_9 => ?_) (fun c_9 => ?_)
      · --L49T
        have qq := (nI_leI (by omega) (by omega)).mp c_9
        have ee : iZ = nlZ := by omega
        rw [ee] at hl
        refine lv_aload_n hx hb dX3_putShelf_39 rfl (lv_at hl 0 rfl) ?_
        refine lv_aload_n hx hb dX3_putShelf_40 rfl (lv_at hl 0 rfl) ?_
        refine va_get (D := D) (ci := 3) (v := .int (nI npZ)) (C := RX3) (T := TX3) (N := 16) hx hb hts (fun _ h => List.mem_cons_of_mem _ (List.mem_append_right _ h)) hown hK hP 0 rfl rfl 8 (by decide) (hts (.fieldLink RX3 41 "MapsByUseModel" "pairs" "I") (List.mem_of_getElem? (i := 3) (by decide +kernel))) (fun _ h9 => h9) rfl dX3_putShelf_41 ?_
        refine lv_iload_n hx hb dX3_putShelf_44 rfl (lv_at hl 1 rfl) ?_
        refine lv_iadd hx hb dX3_putShelf_45 ?_
        refine m_topi (y := (nI (npZ + (cntP (qL fZ npZ fsZ) nlZ)))) (by exact nI_add _ _) ?_
        refine lv_sipush (v := 200) hx hb dX3_putShelf_46 (by decide) ?_
        refine lv_icmp_le (tgt := 56) hx hb dX3_putShelf_49 (by decide) (fun c_49 => ?_) (fun c_49 => ?_)
        · --L49T49T
          exact absurd c_49 (nI_ge hq (by omega))
        · --L49T49F
          refine lv_iconst (v := 1) hx hb dX3_putShelf_52 (by decide) ?_
          refine lv_goto (tgt := 57) hx hb dX3_putShelf_53 (by decide) ?_
          refine m_Vi (As := [.int 1]) (wr := [(akZ, .inl (I, 200, .inl fZ)), (lkZ, .inl (I, 61, .inl fsZ))]) (ws2 := fun _ => [(yZ, .inr (3, [.ref akZ, .ref avZ, .ref awZ, .ref aoZ, .ref amZ, .ref lkZ, .ref lvZ, .ref luZ, .int (nI npZ), .int iwZ, .int imZ, .int (nI nlZ), .int irZ, .int iuZ, .int iaZ, .int 1])), (akZ, .inl (I, 200, .inl fZ)), (lkZ, .inl (I, 61, .inl fsZ))]) ⟨hx, hb, hml, hown, hts⟩ hA hK hP hD hS hl.1 (c_X3_fails l D I J H.size yZ akZ avZ awZ aoZ amZ lkZ lvZ luZ (nI npZ) iwZ imZ (nI nlZ) irZ iuZ iaZ icZ 1 ) (cwV 1 hts gX3_putShelf_X3_fails rfl rfl rfl (by decide +kernel) ⟨Nat.le_of_ble_eq_true rfl, Nat.le_of_ble_eq_true rfl⟩) [0] [1, 2] [2, 0, 1] 0 3 rfl rfl rfl rfl rfl (by decide) (by decide) (by decide) (by decide) (fun _ => rfl) rfl rfl (Nat.le_of_ble_eq_true rfl) dX3_putShelf_57 ⟨(by exact Nat.le_of_ble_eq_true rfl), (by exact Nat.le_of_ble_eq_true rfl)⟩ (fun r_57 u_57 H locs hw_57 hP hD hS => ?_)
          try dsimp only at hw_57
          have hP : va_P D vwCl [(yZ, .inr (3, [.ref akZ, .ref avZ, .ref awZ, .ref aoZ, .ref amZ, .ref lkZ, .ref lvZ, .ref luZ, .int (nI npZ), .int iwZ, .int imZ, .int (nI nlZ), .int irZ, .int iuZ, .int iaZ, .int 1])), (akZ, .inl (I, 200, .inl fZ)), (lkZ, .inl (I, 61, .inl fsZ))] H := hP
          have hD : va_D A [(yZ, .inr (3, [.ref akZ, .ref avZ, .ref awZ, .ref aoZ, .ref amZ, .ref lkZ, .ref lvZ, .ref luZ, .int (nI npZ), .int iwZ, .int imZ, .int (nI nlZ), .int irZ, .int iuZ, .int iaZ, .int 1])), (akZ, .inl (I, 200, .inl fZ)), (lkZ, .inl (I, 61, .inl fsZ))] := hD
          subst hw_57
          refine lv_if_eq (tgt := 65) hx hb dX3_putShelf_60 (by decide) (fun c_60 => ?_) (fun c_60 => ?_)
          · --L49T49F60T
            exact absurd c_60 (by decide)
          · --L49T49F60F
            refine lv_iconst (v := 0) hx hb dX3_putShelf_63 (by decide) ?_
            refine m_iret () hx hb hr hlocks hP hD hS dX3_putShelf_64 (by first | exact Nat.le_of_ble_eq_true rfl | omega) (by first | exact Nat.le_of_ble_eq_true rfl | omega) ?_
            rfl
      · --L49F
        have hlt : iZ < nlZ := by
          rcases Nat.lt_or_ge iZ nlZ with q | q
          · exact q
          · exact absurd ((nI_leI (by omega) (by omega)).mpr q) c_9
        refine lv_iload_n hx hb dX3_putShelf_12 rfl (lv_at hl 1 rfl) ?_
        refine lv_aload_n hx hb dX3_putShelf_13 rfl (lv_at hl 0 rfl) ?_
        refine lv_aload_n hx hb dX3_putShelf_14 rfl (lv_at hl 0 rfl) ?_
        refine va_get (D := D) (ci := 3) (v := .ref lkZ) (C := RX3) (T := TX3) (N := 16) hx hb hts (fun _ h => List.mem_cons_of_mem _ (List.mem_append_right _ h)) hown hK hP 0 rfl rfl 5 (by decide) (hts (.fieldLink RX3 25 "MapsByUseModel" "laidKeys" "[I") (List.mem_of_getElem? (i := 2) (by decide +kernel))) (fun _ h9 => h9) rfl dX3_putShelf_15 ?_
        refine lv_iload_n hx hb dX3_putShelf_18 rfl (lv_at hl 2 rfl) ?_
        refine m_iald (D := D) (cl := vwCl) hx hb hK hP 2 0 (j := iZ) rfl rfl (by rfl) (by omega) (by omega) dX3_putShelf_19 ?_
        refine m_Vi (As := [.int (fsZ iZ)]) (wr := [(lkZ, .inl (I, 61, .inl fsZ))]) (ws2 := fun _ => [(yZ, .inr (3, [.ref akZ, .ref avZ, .ref awZ, .ref aoZ, .ref amZ, .ref lkZ, .ref lvZ, .ref luZ, .int (nI npZ), .int iwZ, .int imZ, .int (nI nlZ), .int irZ, .int iuZ, .int iaZ, .int icZ])), (akZ, .inl (I, 200, .inl fZ)), (lkZ, .inl (I, 61, .inl fsZ))]) ⟨hx, hb, hml, hown, hts⟩ hA hK hP hD hS hl.1 (c_X3_at l D I J H.size yZ akZ avZ awZ aoZ amZ lkZ lvZ luZ npZ iwZ imZ (nI nlZ) irZ iuZ iaZ icZ fZ (fsZ iZ) (by omega)) (cwV 1 hts gX3_putShelf_X3_at rfl rfl rfl (by decide +kernel) ⟨Nat.le_of_ble_eq_true rfl, Nat.le_of_ble_eq_true rfl⟩) [0, 1] [2] [1, 2, 0] 0 3 rfl rfl rfl rfl rfl (by decide) (by decide) (by decide) (by decide) (fun _ => rfl) rfl rfl (Nat.le_of_ble_eq_true rfl) dX3_putShelf_20 ⟨(by exact Nat.le_of_ble_eq_true rfl), (by exact Nat.le_of_ble_eq_true rfl)⟩ (fun r_20 u_20 H locs hw_20 hP hD hS => ?_)
        try dsimp only at hw_20
        have hP : va_P D vwCl [(yZ, .inr (3, [.ref akZ, .ref avZ, .ref awZ, .ref aoZ, .ref amZ, .ref lkZ, .ref lvZ, .ref luZ, .int (nI npZ), .int iwZ, .int imZ, .int (nI nlZ), .int irZ, .int iuZ, .int iaZ, .int icZ])), (akZ, .inl (I, 200, .inl fZ)), (lkZ, .inl (I, 61, .inl fsZ))] H := hP
        have hD : va_D A [(yZ, .inr (3, [.ref akZ, .ref avZ, .ref awZ, .ref aoZ, .ref amZ, .ref lkZ, .ref lvZ, .ref luZ, .int (nI npZ), .int iwZ, .int imZ, .int (nI nlZ), .int irZ, .int iuZ, .int iaZ, .int icZ])), (akZ, .inl (I, 200, .inl fZ)), (lkZ, .inl (I, 61, .inl fsZ))] := hD
        subst hw_20
        refine lv_if_ge (tgt := 30) hx hb dX3_putShelf_23 (by decide) (fun c_23 => ?_) (fun c_23 => ?_)
        · --L49F23T
          refine lv_iconst (v := 0) hx hb dX3_putShelf_30 (by decide) ?_
          refine lv_iadd hx hb dX3_putShelf_31 ?_
          refine m_topi (y := (nI (cntP (qL fZ npZ fsZ) (iZ + 1)))) (by obtain ⟨jZ, ho⟩ := iO_ges c_23; rw [cntP_f (qL_f ho)]; exact Int32.add_zero _) ?_
          refine lv_istore_n (lv' := [(1, .int (nI (cntP (qL fZ npZ fsZ) (iZ + 1)))), (0, .ref yZ), (2, .int (nI iZ))]) hx hb dX3_putShelf_32 rfl hl (by decide) rfl (fun ls hl => ?_)
          refine lv_iinc (v := (nI (iZ + 1))) (lv' := [(2, .int (nI (iZ + 1))), (1, .int (nI (cntP (qL fZ npZ fsZ) (iZ + 1)))), (0, .ref yZ)]) hx hb dX3_putShelf_33 hl (k := 2) rfl (nI_1 _) (by decide) rfl (fun ls hl => ?_)
          refine lv_goto (tgt := 4) hx hb dX3_putShelf_36 (by decide) ?_
          exact ih_4  (iZ + 1) _ (by rfl) _ (by rfl) (by first | assumption | omega | rfl) (by omega) _ _ hP hD hS ls (lv_sub hl [2, 1, 0] rfl)
        · --L49F23F
          refine lv_iconst (v := 1) hx hb dX3_putShelf_26 (by decide) ?_
          refine lv_goto (tgt := 31) hx hb dX3_putShelf_27 (by decide) ?_
          refine lv_iadd hx hb dX3_putShelf_31 ?_
          refine m_topi (y := (nI (cntP (qL fZ npZ fsZ) (iZ + 1)))) (by rw [cntP_t (qL_t (iO_ge c_23 (rL_lt (by omega))))]; exact nI_1 _) ?_
          refine lv_istore_n (lv' := [(1, .int (nI (cntP (qL fZ npZ fsZ) (iZ + 1)))), (0, .ref yZ), (2, .int (nI iZ))]) hx hb dX3_putShelf_32 rfl hl (by decide) rfl (fun ls hl => ?_)
          refine lv_iinc (v := (nI (iZ + 1))) (lv' := [(2, .int (nI (iZ + 1))), (1, .int (nI (cntP (qL fZ npZ fsZ) (iZ + 1)))), (0, .ref yZ)]) hx hb dX3_putShelf_33 hl (k := 2) rfl (nI_1 _) (by decide) rfl (fun ls hl => ?_)
          refine lv_goto (tgt := 4) hx hb dX3_putShelf_36 (by decide) ?_
          exact ih_4  (iZ + 1) _ (by rfl) _ (by rfl) (by first | assumption | omega | rfl) (by omega) _ _ hP hD hS ls (lv_sub hl [2, 1, 0] rfl)
  exact loop_4 (nlZ - 0 + 1) 0 _ (by first | rfl | simp [nI_1, nI_0]) _ (by first | rfl | simp [nI_1, nI_0]) (by first | assumption | omega | rfl) (by exact Nat.lt_succ_self _) _ _ hP hD hS ls (lv_sub hl [2, 1, 0] rfl)

set_option maxHeartbeats 4000000 in
set_option maxRecDepth 100000 in
theorem c_X3_size (l : Launch) (D : va_G) (I J : ClassId) (sz : Nat) (yZ : Nat) (akZ : Nat) (avZ : Nat) (awZ : Nat) (aoZ : Nat) (amZ : Nat) (lkZ : Nat) (lvZ : Nat) (luZ : Nat) (npZ : Nat) (iwZ : Int32) (imZ : Int32) (ilZ : Int32) (irZ : Int32) (iuZ : Int32) (iaZ : Int32) (icZ : Int32)  : mCi l yX3_size wsX3_size 0 0 0 0 D I J [.ref yZ] [(yZ, .inr (3, [.ref akZ, .ref avZ, .ref awZ, .ref aoZ, .ref amZ, .ref lkZ, .ref lvZ, .ref luZ, .int (nI npZ), .int iwZ, .int imZ, .int ilZ, .int irZ, .int iuZ, .int iaZ, .int icZ]))] sz (fun (x : Int32) (u : Unit) => x = (nI npZ)) (fun (u : Unit) => [(yZ, .inr (3, [.ref akZ, .ref avZ, .ref awZ, .ref aoZ, .ref amZ, .ref lkZ, .ref lvZ, .ref luZ, .int (nI npZ), .int iwZ, .int imZ, .int ilZ, .int irZ, .int iuZ, .int iaZ, .int 0]))]) := by
  refine m_ofi (cc := cX3_size) (maxL := 1) (ret := (some .int)) (by decide) rfl (Nat.le_of_ble_eq_true rfl) ?_
  intro p e s m args below meth c A ls hx hb hr hlocks hml hts hown hin hK hP hD hA hS hl
  have hl : lv_has ls 1 [(0, .ref yZ)] := hl
  have hP : va_P D vwCl [(yZ, .inr (3, [.ref akZ, .ref avZ, .ref awZ, .ref aoZ, .ref amZ, .ref lkZ, .ref lvZ, .ref luZ, .int (nI npZ), .int iwZ, .int imZ, .int ilZ, .int irZ, .int iuZ, .int iaZ, .int icZ]))] s.heap := hP
  have hD : va_D A [(yZ, .inr (3, [.ref akZ, .ref avZ, .ref awZ, .ref aoZ, .ref amZ, .ref lkZ, .ref lvZ, .ref luZ, .int (nI npZ), .int iwZ, .int imZ, .int ilZ, .int irZ, .int iuZ, .int iaZ, .int icZ]))] := hD
  refine lv_aload_n hx hb dX3_size_0 rfl (lv_at hl 0 rfl) ?_
  refine lv_iconst (v := 0) hx hb dX3_size_1 (by decide) ?_
  refine va_put (D := D) (ci := 3) (v := .int 0) (ty := .int) (C := RX3) (T := TX3) (N := 16) hx hb hts (fun _ h => List.mem_cons_of_mem _ (List.mem_append_right _ h)) tyX3 tyX3_ok nmX3 hown hK hP hD hS 0 rfl rfl 15 (by decide) (hts (.fieldLink RX3 38 "MapsByUseModel" "code" "I") (List.mem_of_getElem? (i := 1) (by decide +kernel))) (fun _ h9 => h9) rfl (by decide +kernel) rfl rfl (Nat.le_of_ble_eq_true rfl) dX3_size_2 (fun H locs hP hD hS => ?_)
  have hP : va_P D vwCl [(yZ, .inr (3, [.ref akZ, .ref avZ, .ref awZ, .ref aoZ, .ref amZ, .ref lkZ, .ref lvZ, .ref luZ, .int (nI npZ), .int iwZ, .int imZ, .int ilZ, .int irZ, .int iuZ, .int iaZ, .int 0]))] H := hP
  have hD : va_D A [(yZ, .inr (3, [.ref akZ, .ref avZ, .ref awZ, .ref aoZ, .ref amZ, .ref lkZ, .ref lvZ, .ref luZ, .int (nI npZ), .int iwZ, .int imZ, .int ilZ, .int irZ, .int iuZ, .int iaZ, .int 0]))] := hD
  refine lv_aload_n hx hb dX3_size_5 rfl (lv_at hl 0 rfl) ?_
  refine va_get (D := D) (ci := 3) (v := .int (nI npZ)) (C := RX3) (T := TX3) (N := 16) hx hb hts (fun _ h => List.mem_cons_of_mem _ (List.mem_append_right _ h)) hown hK hP 0 rfl rfl 8 (by decide) (hts (.fieldLink RX3 41 "MapsByUseModel" "pairs" "I") (List.mem_of_getElem? (i := 2) (by decide +kernel))) (fun _ h9 => h9) rfl dX3_size_6 ?_
  refine m_iret () hx hb hr hlocks hP hD hS dX3_size_9 (by first | exact Nat.le_of_ble_eq_true rfl | omega) (by first | exact Nat.le_of_ble_eq_true rfl | omega) ?_
  rfl

set_option maxHeartbeats 4000000 in
set_option maxRecDepth 100000 in
theorem c_X3_clear (l : Launch) (D : va_G) (I J : ClassId) (sz : Nat) (yZ : Nat) (akZ : Nat) (avZ : Nat) (awZ : Nat) (aoZ : Nat) (amZ : Nat) (lkZ : Nat) (lvZ : Nat) (luZ : Nat) (npZ : Nat) (iwZ : Int32) (imZ : Int32) (ilZ : Int32) (irZ : Int32) (iuZ : Int32) (iaZ : Int32) (icZ : Int32)  : mCi l yX3_clear wsX3_clear 0 0 0 0 D I J [.ref yZ] [(yZ, .inr (3, [.ref akZ, .ref avZ, .ref awZ, .ref aoZ, .ref amZ, .ref lkZ, .ref lvZ, .ref luZ, .int (nI npZ), .int iwZ, .int imZ, .int ilZ, .int irZ, .int iuZ, .int iaZ, .int icZ]))] sz (fun (x : Int32) (u : Unit) => x = (nI npZ)) (fun (u : Unit) => [(yZ, .inr (3, [.ref akZ, .ref avZ, .ref awZ, .ref aoZ, .ref amZ, .ref lkZ, .ref lvZ, .ref luZ, .int (nI 0), .int iwZ, .int imZ, .int ilZ, .int irZ, .int iuZ, .int iaZ, .int 0]))]) := by
  refine m_ofi (cc := cX3_clear) (maxL := 2) (ret := (some .int)) (by decide) rfl (Nat.le_of_ble_eq_true rfl) ?_
  intro p e s m args below meth c A ls hx hb hr hlocks hml hts hown hin hK hP hD hA hS hl
  have hl : lv_has ls 2 [(0, .ref yZ)] := hl
  have hP : va_P D vwCl [(yZ, .inr (3, [.ref akZ, .ref avZ, .ref awZ, .ref aoZ, .ref amZ, .ref lkZ, .ref lvZ, .ref luZ, .int (nI npZ), .int iwZ, .int imZ, .int ilZ, .int irZ, .int iuZ, .int iaZ, .int icZ]))] s.heap := hP
  have hD : va_D A [(yZ, .inr (3, [.ref akZ, .ref avZ, .ref awZ, .ref aoZ, .ref amZ, .ref lkZ, .ref lvZ, .ref luZ, .int (nI npZ), .int iwZ, .int imZ, .int ilZ, .int irZ, .int iuZ, .int iaZ, .int icZ]))] := hD
  refine lv_aload_n hx hb dX3_clear_0 rfl (lv_at hl 0 rfl) ?_
  refine lv_iconst (v := 0) hx hb dX3_clear_1 (by decide) ?_
  refine va_put (D := D) (ci := 3) (v := .int 0) (ty := .int) (C := RX3) (T := TX3) (N := 16) hx hb hts (fun _ h => List.mem_cons_of_mem _ (List.mem_append_right _ h)) tyX3 tyX3_ok nmX3 hown hK hP hD hS 0 rfl rfl 15 (by decide) (hts (.fieldLink RX3 38 "MapsByUseModel" "code" "I") (List.mem_of_getElem? (i := 1) (by decide +kernel))) (fun _ h9 => h9) rfl (by decide +kernel) rfl rfl (Nat.le_of_ble_eq_true rfl) dX3_clear_2 (fun H locs hP hD hS => ?_)
  have hP : va_P D vwCl [(yZ, .inr (3, [.ref akZ, .ref avZ, .ref awZ, .ref aoZ, .ref amZ, .ref lkZ, .ref lvZ, .ref luZ, .int (nI npZ), .int iwZ, .int imZ, .int ilZ, .int irZ, .int iuZ, .int iaZ, .int 0]))] H := hP
  have hD : va_D A [(yZ, .inr (3, [.ref akZ, .ref avZ, .ref awZ, .ref aoZ, .ref amZ, .ref lkZ, .ref lvZ, .ref luZ, .int (nI npZ), .int iwZ, .int imZ, .int ilZ, .int irZ, .int iuZ, .int iaZ, .int 0]))] := hD
  refine lv_aload_n hx hb dX3_clear_5 rfl (lv_at hl 0 rfl) ?_
  refine va_get (D := D) (ci := 3) (v := .int (nI npZ)) (C := RX3) (T := TX3) (N := 16) hx hb hts (fun _ h => List.mem_cons_of_mem _ (List.mem_append_right _ h)) hown hK hP 0 rfl rfl 8 (by decide) (hts (.fieldLink RX3 41 "MapsByUseModel" "pairs" "I") (List.mem_of_getElem? (i := 2) (by decide +kernel))) (fun _ h9 => h9) rfl dX3_clear_6 ?_
  refine lv_istore_n (lv' := [(1, .int (nI npZ)), (0, .ref yZ)]) hx hb dX3_clear_9 rfl hl (by decide) rfl (fun ls hl => ?_)
  refine lv_aload_n hx hb dX3_clear_10 rfl (lv_at hl 1 rfl) ?_
  refine lv_iconst (v := 0) hx hb dX3_clear_11 (by decide) ?_
  refine m_topi (y := (nI 0)) (by rfl) ?_
  refine va_put (D := D) (ci := 3) (v := .int (nI 0)) (ty := .int) (C := RX3) (T := TX3) (N := 16) hx hb hts (fun _ h => List.mem_cons_of_mem _ (List.mem_append_right _ h)) tyX3 tyX3_ok nmX3 hown hK hP hD hS 0 rfl rfl 8 (by decide) (hts (.fieldLink RX3 41 "MapsByUseModel" "pairs" "I") (List.mem_of_getElem? (i := 2) (by decide +kernel))) (fun _ h9 => h9) rfl (by decide +kernel) rfl rfl (Nat.le_of_ble_eq_true rfl) dX3_clear_12 (fun H locs hP hD hS => ?_)
  have hP : va_P D vwCl [(yZ, .inr (3, [.ref akZ, .ref avZ, .ref awZ, .ref aoZ, .ref amZ, .ref lkZ, .ref lvZ, .ref luZ, .int (nI 0), .int iwZ, .int imZ, .int ilZ, .int irZ, .int iuZ, .int iaZ, .int 0]))] H := hP
  have hD : va_D A [(yZ, .inr (3, [.ref akZ, .ref avZ, .ref awZ, .ref aoZ, .ref amZ, .ref lkZ, .ref lvZ, .ref luZ, .int (nI 0), .int iwZ, .int imZ, .int ilZ, .int irZ, .int iuZ, .int iaZ, .int 0]))] := hD
  refine lv_iload_n hx hb dX3_clear_15 rfl (lv_at hl 0 rfl) ?_
  refine m_iret () hx hb hr hlocks hP hD hS dX3_clear_16 (by first | exact Nat.le_of_ble_eq_true rfl | omega) (by first | exact Nat.le_of_ble_eq_true rfl | omega) ?_
  rfl

set_option maxHeartbeats 4000000 in
set_option maxRecDepth 100000 in
theorem c_X3_sumOfKeys (l : Launch) (D : va_G) (I J : ClassId) (sz : Nat) (yZ : Nat) (akZ : Nat) (avZ : Nat) (awZ : Nat) (aoZ : Nat) (amZ : Nat) (lkZ : Nat) (lvZ : Nat) (luZ : Nat) (npZ : Nat) (iwZ : Int32) (imZ : Int32) (ilZ : Int32) (irZ : Int32) (iuZ : Int32) (iaZ : Int32) (icZ : Int32) (fZ : Nat → Int32) (hnp : npZ ≤ 200) : mCl l yX3_sumOfKeys wsX3_sumOfKeys 0 0 0 0 D I J [.ref yZ] [(yZ, .inr (3, [.ref akZ, .ref avZ, .ref awZ, .ref aoZ, .ref amZ, .ref lkZ, .ref lvZ, .ref luZ, .int (nI npZ), .int iwZ, .int imZ, .int ilZ, .int irZ, .int iuZ, .int iaZ, .int icZ])), (akZ, .inl (I, 200, .inl fZ))] sz (fun (x : Int64) (u : Unit) => x = (sumK fZ npZ)) (fun (u : Unit) => [(yZ, .inr (3, [.ref akZ, .ref avZ, .ref awZ, .ref aoZ, .ref amZ, .ref lkZ, .ref lvZ, .ref luZ, .int (nI npZ), .int iwZ, .int imZ, .int ilZ, .int irZ, .int iuZ, .int iaZ, .int 0])), (akZ, .inl (I, 200, .inl fZ))]) := by
  refine m_ofl (cc := cX3_sumOfKeys) (maxL := 4) (ret := (some .long)) (by decide) rfl (Nat.le_of_ble_eq_true rfl) ?_
  intro p e s m args below meth c A ls hx hb hr hlocks hml hts hown hin hK hP hD hA hS hl
  have hl : lv_has ls 4 [(0, .ref yZ)] := hl
  have hP : va_P D vwCl [(yZ, .inr (3, [.ref akZ, .ref avZ, .ref awZ, .ref aoZ, .ref amZ, .ref lkZ, .ref lvZ, .ref luZ, .int (nI npZ), .int iwZ, .int imZ, .int ilZ, .int irZ, .int iuZ, .int iaZ, .int icZ])), (akZ, .inl (I, 200, .inl fZ))] s.heap := hP
  have hD : va_D A [(yZ, .inr (3, [.ref akZ, .ref avZ, .ref awZ, .ref aoZ, .ref amZ, .ref lkZ, .ref lvZ, .ref luZ, .int (nI npZ), .int iwZ, .int imZ, .int ilZ, .int irZ, .int iuZ, .int iaZ, .int icZ])), (akZ, .inl (I, 200, .inl fZ))] := hD
  refine lv_aload_n hx hb dX3_sumOfKeys_0 rfl (lv_at hl 0 rfl) ?_
  refine lv_iconst (v := 0) hx hb dX3_sumOfKeys_1 (by decide) ?_
  refine va_put (D := D) (ci := 3) (v := .int 0) (ty := .int) (C := RX3) (T := TX3) (N := 16) hx hb hts (fun _ h => List.mem_cons_of_mem _ (List.mem_append_right _ h)) tyX3 tyX3_ok nmX3 hown hK hP hD hS 0 rfl rfl 15 (by decide) (hts (.fieldLink RX3 38 "MapsByUseModel" "code" "I") (List.mem_of_getElem? (i := 1) (by decide +kernel))) (fun _ h9 => h9) rfl (by decide +kernel) rfl rfl (Nat.le_of_ble_eq_true rfl) dX3_sumOfKeys_2 (fun H locs hP hD hS => ?_)
  have hP : va_P D vwCl [(yZ, .inr (3, [.ref akZ, .ref avZ, .ref awZ, .ref aoZ, .ref amZ, .ref lkZ, .ref lvZ, .ref luZ, .int (nI npZ), .int iwZ, .int imZ, .int ilZ, .int irZ, .int iuZ, .int iaZ, .int 0])), (akZ, .inl (I, 200, .inl fZ))] H := hP
  have hD : va_D A [(yZ, .inr (3, [.ref akZ, .ref avZ, .ref awZ, .ref aoZ, .ref amZ, .ref lkZ, .ref lvZ, .ref luZ, .int (nI npZ), .int iwZ, .int imZ, .int ilZ, .int irZ, .int iuZ, .int iaZ, .int 0])), (akZ, .inl (I, 200, .inl fZ))] := hD
  refine lv_lconst (v := 0) hx hb dX3_sumOfKeys_5 (by decide) ?_
  refine lv_lstore_n (lv' := [(1, .long 0), (0, .ref yZ)]) hx hb dX3_sumOfKeys_6 rfl hl (by decide) rfl (fun ls hl => ?_)
  refine lv_iconst (v := 0) hx hb dX3_sumOfKeys_7 (by decide) ?_
  refine lv_istore_n (lv' := [(3, .int 0), (1, .long 0), (0, .ref yZ)]) hx hb dX3_sumOfKeys_8 rfl hl (by decide) rfl (fun ls hl => ?_)
  have loop_9 : ∀ (k_9 : Nat) (iZ : Nat) (x_1 : Int64) (ex_1 : x_1 = (sumK fZ iZ)) (x_3 : Int32) (ex_3 : x_3 = (nI iZ)) (hi : iZ ≤ npZ) (hm_ : npZ - iZ < k_9) (H : Heap) (locs : List Loc) (hP : va_P D vwCl [(yZ, .inr (3, [.ref akZ, .ref avZ, .ref awZ, .ref aoZ, .ref amZ, .ref lkZ, .ref lvZ, .ref luZ, .int (nI npZ), .int iwZ, .int imZ, .int ilZ, .int irZ, .int iuZ, .int iaZ, .int 0])), (akZ, .inl (I, 200, .inl fZ))] H) (hD : va_D A [(yZ, .inr (3, [.ref akZ, .ref avZ, .ref awZ, .ref aoZ, .ref amZ, .ref lkZ, .ref lvZ, .ref luZ, .int (nI npZ), .int iwZ, .int imZ, .int ilZ, .int irZ, .int iuZ, .int iaZ, .int 0])), (akZ, .inl (I, 200, .inl fZ))]) (hS : va_S A s.heap H locs) (ls : Array Slot) (hl : lv_has ls 4 [(0, .ref yZ), (1, .long x_1), (3, .int x_3)]), W p l e (mRm 0 0 0 0) s m args below meth c H locs 0 0 (MQ below (va_Ql (fun (x : Int64) (u : Unit) => x = (sumK fZ npZ)) (mB D (fun (u : Unit) => [(yZ, .inr (3, [.ref akZ, .ref avZ, .ref awZ, .ref aoZ, .ref amZ, .ref lkZ, .ref lvZ, .ref luZ, .int (nI npZ), .int iwZ, .int imZ, .int ilZ, .int irZ, .int iuZ, .int iaZ, .int 0])), (akZ, .inl (I, 200, .inl fZ))]) A) A) args s 0 0 A) (F0 m 9 ls []) := by
    intro k_9
    induction k_9 with
    | zero => intro iZ x_1 ex_1 x_3 ex_3 hi hm_; exact absurd hm_ (Nat.not_lt_zero _)
    | succ k_9 ih_9 =>
      intro iZ x_1 ex_1 x_3 ex_3 hi hm_ H locs hP hD hS ls hl
      subst ex_1
      subst ex_3
      refine lv_iload_n hx hb dX3_sumOfKeys_9 rfl (lv_at hl 2 rfl) ?_
      refine lv_aload_n hx hb dX3_sumOfKeys_10 rfl (lv_at hl 0 rfl) ?_
      refine va_get (D := D) (ci := 3) (v := .int (nI npZ)) (C := RX3) (T := TX3) (N := 16) hx hb hts (fun _ h => List.mem_cons_of_mem _ (List.mem_append_right _ h)) hown hK hP 0 rfl rfl 8 (by decide) (hts (.fieldLink RX3 41 "MapsByUseModel" "pairs" "I") (List.mem_of_getElem? (i := 2) (by decide +kernel))) (fun _ h9 => h9) rfl dX3_sumOfKeys_11 ?_
      refine lv_icmp_ge (tgt := 33) hx hb dX3_sumOfKeys_14 (by decide) (fun c_14 => ?_) (fun c_14 => ?_)
      · --L914T
        have qq := (nI_leI (by omega) (by omega)).mp c_14
        have ee : iZ = npZ := by omega
        refine lv_lload_n hx hb dX3_sumOfKeys_33 rfl (lv_at hl 1 rfl) ?_
        refine m_lret () hx hb hr hlocks hP hD hS dX3_sumOfKeys_34 (by first | exact Nat.le_of_ble_eq_true rfl | omega) (by first | exact Nat.le_of_ble_eq_true rfl | omega) ?_
        rw [ee]
      · --L914F
        have hlt : iZ < npZ := by
          rcases Nat.lt_or_ge iZ npZ with q | q
          · exact q
          · exact absurd ((nI_leI (by omega) (by omega)).mpr q) c_14
        refine lv_lload_n hx hb dX3_sumOfKeys_17 rfl (lv_at hl 1 rfl) ?_
        refine lv_aload_n hx hb dX3_sumOfKeys_18 rfl (lv_at hl 0 rfl) ?_
        refine va_get (D := D) (ci := 3) (v := .ref akZ) (C := RX3) (T := TX3) (N := 16) hx hb hts (fun _ h => List.mem_cons_of_mem _ (List.mem_append_right _ h)) hown hK hP 0 rfl rfl 0 (by decide) (hts (.fieldLink RX3 7 "MapsByUseModel" "keys" "[I") (List.mem_of_getElem? (i := 3) (by decide +kernel))) (fun _ h9 => h9) rfl dX3_sumOfKeys_19 ?_
        refine lv_iload_n hx hb dX3_sumOfKeys_22 rfl (lv_at hl 2 rfl) ?_
        refine m_iald (D := D) (cl := vwCl) hx hb hK hP 1 0 (j := iZ) rfl rfl (by rfl) (by omega) (by omega) dX3_sumOfKeys_23 ?_
        refine lv_i2l (v := (fZ iZ).toInt64) hx hb dX3_sumOfKeys_24 rfl ?_
        refine lv_ladd hx hb dX3_sumOfKeys_25 ?_
        refine lv_lstore_n (lv' := [(1, .long ((sumK fZ iZ) + ((fZ iZ).toInt64))), (0, .ref yZ), (3, .int (nI iZ))]) hx hb dX3_sumOfKeys_26 rfl hl (by decide) rfl (fun ls hl => ?_)
        refine lv_iinc (v := (nI (iZ + 1))) (lv' := [(3, .int (nI (iZ + 1))), (1, .long ((sumK fZ iZ) + ((fZ iZ).toInt64))), (0, .ref yZ)]) hx hb dX3_sumOfKeys_27 hl (k := 2) rfl (nI_1 _) (by decide) rfl (fun ls hl => ?_)
        refine lv_goto (tgt := 9) hx hb dX3_sumOfKeys_30 (by decide) ?_
        exact ih_9  (iZ + 1) _ (by first | rfl | simp [nI_1, nI_0]) _ (by rfl) (by first | assumption | omega | rfl) (by omega) _ _ hP hD hS ls (lv_sub hl [2, 1, 0] rfl)
  exact loop_9 (npZ - 0 + 1) 0 _ (by first | rfl | simp [nI_1, nI_0]) _ (by first | rfl | simp [nI_1, nI_0]) (by first | assumption | omega | rfl) (by exact Nat.lt_succ_self _) _ _ hP hD hS ls (lv_sub hl [2, 1, 0] rfl)

set_option maxHeartbeats 4000000 in
set_option maxRecDepth 100000 in
theorem c_X3_sumOfValues (l : Launch) (D : va_G) (I J : ClassId) (sz : Nat) (yZ : Nat) (akZ : Nat) (avZ : Nat) (awZ : Nat) (aoZ : Nat) (amZ : Nat) (lkZ : Nat) (lvZ : Nat) (luZ : Nat) (npZ : Nat) (iwZ : Int32) (imZ : Int32) (ilZ : Int32) (irZ : Int32) (iuZ : Int32) (iaZ : Int32) (icZ : Int32) (gZ : Nat → Int32) (hnp : npZ ≤ 200) : mCl l yX3_sumOfValues wsX3_sumOfValues 0 0 0 0 D I J [.ref yZ] [(yZ, .inr (3, [.ref akZ, .ref avZ, .ref awZ, .ref aoZ, .ref amZ, .ref lkZ, .ref lvZ, .ref luZ, .int (nI npZ), .int iwZ, .int imZ, .int ilZ, .int irZ, .int iuZ, .int iaZ, .int icZ])), (avZ, .inl (I, 200, .inl gZ))] sz (fun (x : Int64) (u : Unit) => x = (sumK gZ npZ)) (fun (u : Unit) => [(yZ, .inr (3, [.ref akZ, .ref avZ, .ref awZ, .ref aoZ, .ref amZ, .ref lkZ, .ref lvZ, .ref luZ, .int (nI npZ), .int iwZ, .int imZ, .int ilZ, .int irZ, .int iuZ, .int iaZ, .int 0])), (avZ, .inl (I, 200, .inl gZ))]) := by
  refine m_ofl (cc := cX3_sumOfValues) (maxL := 4) (ret := (some .long)) (by decide) rfl (Nat.le_of_ble_eq_true rfl) ?_
  intro p e s m args below meth c A ls hx hb hr hlocks hml hts hown hin hK hP hD hA hS hl
  have hl : lv_has ls 4 [(0, .ref yZ)] := hl
  have hP : va_P D vwCl [(yZ, .inr (3, [.ref akZ, .ref avZ, .ref awZ, .ref aoZ, .ref amZ, .ref lkZ, .ref lvZ, .ref luZ, .int (nI npZ), .int iwZ, .int imZ, .int ilZ, .int irZ, .int iuZ, .int iaZ, .int icZ])), (avZ, .inl (I, 200, .inl gZ))] s.heap := hP
  have hD : va_D A [(yZ, .inr (3, [.ref akZ, .ref avZ, .ref awZ, .ref aoZ, .ref amZ, .ref lkZ, .ref lvZ, .ref luZ, .int (nI npZ), .int iwZ, .int imZ, .int ilZ, .int irZ, .int iuZ, .int iaZ, .int icZ])), (avZ, .inl (I, 200, .inl gZ))] := hD
  refine lv_aload_n hx hb dX3_sumOfValues_0 rfl (lv_at hl 0 rfl) ?_
  refine lv_iconst (v := 0) hx hb dX3_sumOfValues_1 (by decide) ?_
  refine va_put (D := D) (ci := 3) (v := .int 0) (ty := .int) (C := RX3) (T := TX3) (N := 16) hx hb hts (fun _ h => List.mem_cons_of_mem _ (List.mem_append_right _ h)) tyX3 tyX3_ok nmX3 hown hK hP hD hS 0 rfl rfl 15 (by decide) (hts (.fieldLink RX3 38 "MapsByUseModel" "code" "I") (List.mem_of_getElem? (i := 1) (by decide +kernel))) (fun _ h9 => h9) rfl (by decide +kernel) rfl rfl (Nat.le_of_ble_eq_true rfl) dX3_sumOfValues_2 (fun H locs hP hD hS => ?_)
  have hP : va_P D vwCl [(yZ, .inr (3, [.ref akZ, .ref avZ, .ref awZ, .ref aoZ, .ref amZ, .ref lkZ, .ref lvZ, .ref luZ, .int (nI npZ), .int iwZ, .int imZ, .int ilZ, .int irZ, .int iuZ, .int iaZ, .int 0])), (avZ, .inl (I, 200, .inl gZ))] H := hP
  have hD : va_D A [(yZ, .inr (3, [.ref akZ, .ref avZ, .ref awZ, .ref aoZ, .ref amZ, .ref lkZ, .ref lvZ, .ref luZ, .int (nI npZ), .int iwZ, .int imZ, .int ilZ, .int irZ, .int iuZ, .int iaZ, .int 0])), (avZ, .inl (I, 200, .inl gZ))] := hD
  refine lv_lconst (v := 0) hx hb dX3_sumOfValues_5 (by decide) ?_
  refine lv_lstore_n (lv' := [(1, .long 0), (0, .ref yZ)]) hx hb dX3_sumOfValues_6 rfl hl (by decide) rfl (fun ls hl => ?_)
  refine lv_iconst (v := 0) hx hb dX3_sumOfValues_7 (by decide) ?_
  refine lv_istore_n (lv' := [(3, .int 0), (1, .long 0), (0, .ref yZ)]) hx hb dX3_sumOfValues_8 rfl hl (by decide) rfl (fun ls hl => ?_)
  have loop_9 : ∀ (k_9 : Nat) (iZ : Nat) (x_1 : Int64) (ex_1 : x_1 = (sumK gZ iZ)) (x_3 : Int32) (ex_3 : x_3 = (nI iZ)) (hi : iZ ≤ npZ) (hm_ : npZ - iZ < k_9) (H : Heap) (locs : List Loc) (hP : va_P D vwCl [(yZ, .inr (3, [.ref akZ, .ref avZ, .ref awZ, .ref aoZ, .ref amZ, .ref lkZ, .ref lvZ, .ref luZ, .int (nI npZ), .int iwZ, .int imZ, .int ilZ, .int irZ, .int iuZ, .int iaZ, .int 0])), (avZ, .inl (I, 200, .inl gZ))] H) (hD : va_D A [(yZ, .inr (3, [.ref akZ, .ref avZ, .ref awZ, .ref aoZ, .ref amZ, .ref lkZ, .ref lvZ, .ref luZ, .int (nI npZ), .int iwZ, .int imZ, .int ilZ, .int irZ, .int iuZ, .int iaZ, .int 0])), (avZ, .inl (I, 200, .inl gZ))]) (hS : va_S A s.heap H locs) (ls : Array Slot) (hl : lv_has ls 4 [(0, .ref yZ), (1, .long x_1), (3, .int x_3)]), W p l e (mRm 0 0 0 0) s m args below meth c H locs 0 0 (MQ below (va_Ql (fun (x : Int64) (u : Unit) => x = (sumK gZ npZ)) (mB D (fun (u : Unit) => [(yZ, .inr (3, [.ref akZ, .ref avZ, .ref awZ, .ref aoZ, .ref amZ, .ref lkZ, .ref lvZ, .ref luZ, .int (nI npZ), .int iwZ, .int imZ, .int ilZ, .int irZ, .int iuZ, .int iaZ, .int 0])), (avZ, .inl (I, 200, .inl gZ))]) A) A) args s 0 0 A) (F0 m 9 ls []) := by
    intro k_9
    induction k_9 with
    | zero => intro iZ x_1 ex_1 x_3 ex_3 hi hm_; exact absurd hm_ (Nat.not_lt_zero _)
    | succ k_9 ih_9 =>
      intro iZ x_1 ex_1 x_3 ex_3 hi hm_ H locs hP hD hS ls hl
      subst ex_1
      subst ex_3
      refine lv_iload_n hx hb dX3_sumOfValues_9 rfl (lv_at hl 2 rfl) ?_
      refine lv_aload_n hx hb dX3_sumOfValues_10 rfl (lv_at hl 0 rfl) ?_
      refine va_get (D := D) (ci := 3) (v := .int (nI npZ)) (C := RX3) (T := TX3) (N := 16) hx hb hts (fun _ h => List.mem_cons_of_mem _ (List.mem_append_right _ h)) hown hK hP 0 rfl rfl 8 (by decide) (hts (.fieldLink RX3 41 "MapsByUseModel" "pairs" "I") (List.mem_of_getElem? (i := 2) (by decide +kernel))) (fun _ h9 => h9) rfl dX3_sumOfValues_11 ?_
      refine lv_icmp_ge (tgt := 33) hx hb dX3_sumOfValues_14 (by decide) (fun c_14 => ?_) (fun c_14 => ?_)
      · --L914T
        have qq := (nI_leI (by omega) (by omega)).mp c_14
        have ee : iZ = npZ := by omega
        refine lv_lload_n hx hb dX3_sumOfValues_33 rfl (lv_at hl 1 rfl) ?_
        refine m_lret () hx hb hr hlocks hP hD hS dX3_sumOfValues_34 (by first | exact Nat.le_of_ble_eq_true rfl | omega) (by first | exact Nat.le_of_ble_eq_true rfl | omega) ?_
        rw [ee]
      · --L914F
        have hlt : iZ < npZ := by
          rcases Nat.lt_or_ge iZ npZ with q | q
          · exact q
          · exact absurd ((nI_leI (by omega) (by omega)).mpr q) c_14
        refine lv_lload_n hx hb dX3_sumOfValues_17 rfl (lv_at hl 1 rfl) ?_
        refine lv_aload_n hx hb dX3_sumOfValues_18 rfl (lv_at hl 0 rfl) ?_
        refine va_get (D := D) (ci := 3) (v := .ref avZ) (C := RX3) (T := TX3) (N := 16) hx hb hts (fun _ h => List.mem_cons_of_mem _ (List.mem_append_right _ h)) hown hK hP 0 rfl rfl 1 (by decide) (hts (.fieldLink RX3 13 "MapsByUseModel" "values" "[I") (List.mem_of_getElem? (i := 3) (by decide +kernel))) (fun _ h9 => h9) rfl dX3_sumOfValues_19 ?_
        refine lv_iload_n hx hb dX3_sumOfValues_22 rfl (lv_at hl 2 rfl) ?_
        refine m_iald (D := D) (cl := vwCl) hx hb hK hP 1 0 (j := iZ) rfl rfl (by rfl) (by omega) (by omega) dX3_sumOfValues_23 ?_
        refine lv_i2l (v := (gZ iZ).toInt64) hx hb dX3_sumOfValues_24 rfl ?_
        refine lv_ladd hx hb dX3_sumOfValues_25 ?_
        refine lv_lstore_n (lv' := [(1, .long ((sumK gZ iZ) + ((gZ iZ).toInt64))), (0, .ref yZ), (3, .int (nI iZ))]) hx hb dX3_sumOfValues_26 rfl hl (by decide) rfl (fun ls hl => ?_)
        refine lv_iinc (v := (nI (iZ + 1))) (lv' := [(3, .int (nI (iZ + 1))), (1, .long ((sumK gZ iZ) + ((gZ iZ).toInt64))), (0, .ref yZ)]) hx hb dX3_sumOfValues_27 hl (k := 2) rfl (nI_1 _) (by decide) rfl (fun ls hl => ?_)
        refine lv_goto (tgt := 9) hx hb dX3_sumOfValues_30 (by decide) ?_
        exact ih_9  (iZ + 1) _ (by first | rfl | simp [nI_1, nI_0]) _ (by rfl) (by first | assumption | omega | rfl) (by omega) _ _ hP hD hS ls (lv_sub hl [2, 1, 0] rfl)
  exact loop_9 (npZ - 0 + 1) 0 _ (by first | rfl | simp [nI_1, nI_0]) _ (by first | rfl | simp [nI_1, nI_0]) (by first | assumption | omega | rfl) (by exact Nat.lt_succ_self _) _ _ hP hD hS ls (lv_sub hl [2, 1, 0] rfl)

set_option maxHeartbeats 4000000 in
set_option maxRecDepth 100000 in
theorem c_X3_sum (l : Launch) (D : va_G) (I J : ClassId) (sz : Nat) (yZ : Nat) (akZ : Nat) (avZ : Nat) (awZ : Nat) (aoZ : Nat) (amZ : Nat) (lkZ : Nat) (lvZ : Nat) (luZ : Nat) (npZ : Nat) (iwZ : Int32) (imZ : Int32) (ilZ : Int32) (irZ : Int32) (iuZ : Int32) (iaZ : Int32) (icZ : Int32) (fZ : Nat → Int32) (gZ : Nat → Int32) (hnp : npZ ≤ 200) : mCl l yX3_sum wsX3_sum 0 0 0 0 D I J [.ref yZ] [(yZ, .inr (3, [.ref akZ, .ref avZ, .ref awZ, .ref aoZ, .ref amZ, .ref lkZ, .ref lvZ, .ref luZ, .int (nI npZ), .int iwZ, .int imZ, .int ilZ, .int irZ, .int iuZ, .int iaZ, .int icZ])), (akZ, .inl (I, 200, .inl fZ)), (avZ, .inl (I, 200, .inl gZ))] sz (fun (x : Int64) (u : Unit) => x = (sumP fZ gZ npZ)) (fun (u : Unit) => [(yZ, .inr (3, [.ref akZ, .ref avZ, .ref awZ, .ref aoZ, .ref amZ, .ref lkZ, .ref lvZ, .ref luZ, .int (nI npZ), .int iwZ, .int imZ, .int ilZ, .int irZ, .int iuZ, .int iaZ, .int 0])), (akZ, .inl (I, 200, .inl fZ)), (avZ, .inl (I, 200, .inl gZ))]) := by
  refine m_ofl (cc := cX3_sum) (maxL := 4) (ret := (some .long)) (by decide) rfl (Nat.le_of_ble_eq_true rfl) ?_
  intro p e s m args below meth c A ls hx hb hr hlocks hml hts hown hin hK hP hD hA hS hl
  have hl : lv_has ls 4 [(0, .ref yZ)] := hl
  have hP : va_P D vwCl [(yZ, .inr (3, [.ref akZ, .ref avZ, .ref awZ, .ref aoZ, .ref amZ, .ref lkZ, .ref lvZ, .ref luZ, .int (nI npZ), .int iwZ, .int imZ, .int ilZ, .int irZ, .int iuZ, .int iaZ, .int icZ])), (akZ, .inl (I, 200, .inl fZ)), (avZ, .inl (I, 200, .inl gZ))] s.heap := hP
  have hD : va_D A [(yZ, .inr (3, [.ref akZ, .ref avZ, .ref awZ, .ref aoZ, .ref amZ, .ref lkZ, .ref lvZ, .ref luZ, .int (nI npZ), .int iwZ, .int imZ, .int ilZ, .int irZ, .int iuZ, .int iaZ, .int icZ])), (akZ, .inl (I, 200, .inl fZ)), (avZ, .inl (I, 200, .inl gZ))] := hD
  refine lv_aload_n hx hb dX3_sum_0 rfl (lv_at hl 0 rfl) ?_
  refine lv_iconst (v := 0) hx hb dX3_sum_1 (by decide) ?_
  refine va_put (D := D) (ci := 3) (v := .int 0) (ty := .int) (C := RX3) (T := TX3) (N := 16) hx hb hts (fun _ h => List.mem_cons_of_mem _ (List.mem_append_right _ h)) tyX3 tyX3_ok nmX3 hown hK hP hD hS 0 rfl rfl 15 (by decide) (hts (.fieldLink RX3 38 "MapsByUseModel" "code" "I") (List.mem_of_getElem? (i := 1) (by decide +kernel))) (fun _ h9 => h9) rfl (by decide +kernel) rfl rfl (Nat.le_of_ble_eq_true rfl) dX3_sum_2 (fun H locs hP hD hS => ?_)
  have hP : va_P D vwCl [(yZ, .inr (3, [.ref akZ, .ref avZ, .ref awZ, .ref aoZ, .ref amZ, .ref lkZ, .ref lvZ, .ref luZ, .int (nI npZ), .int iwZ, .int imZ, .int ilZ, .int irZ, .int iuZ, .int iaZ, .int 0])), (akZ, .inl (I, 200, .inl fZ)), (avZ, .inl (I, 200, .inl gZ))] H := hP
  have hD : va_D A [(yZ, .inr (3, [.ref akZ, .ref avZ, .ref awZ, .ref aoZ, .ref amZ, .ref lkZ, .ref lvZ, .ref luZ, .int (nI npZ), .int iwZ, .int imZ, .int ilZ, .int irZ, .int iuZ, .int iaZ, .int 0])), (akZ, .inl (I, 200, .inl fZ)), (avZ, .inl (I, 200, .inl gZ))] := hD
  refine lv_lconst (v := 0) hx hb dX3_sum_5 (by decide) ?_
  refine lv_lstore_n (lv' := [(1, .long 0), (0, .ref yZ)]) hx hb dX3_sum_6 rfl hl (by decide) rfl (fun ls hl => ?_)
  refine lv_iconst (v := 0) hx hb dX3_sum_7 (by decide) ?_
  refine lv_istore_n (lv' := [(3, .int 0), (1, .long 0), (0, .ref yZ)]) hx hb dX3_sum_8 rfl hl (by decide) rfl (fun ls hl => ?_)
  have loop_9 : ∀ (k_9 : Nat) (iZ : Nat) (x_1 : Int64) (ex_1 : x_1 = (sumP fZ gZ iZ)) (x_3 : Int32) (ex_3 : x_3 = (nI iZ)) (hi : iZ ≤ npZ) (hm_ : npZ - iZ < k_9) (H : Heap) (locs : List Loc) (hP : va_P D vwCl [(yZ, .inr (3, [.ref akZ, .ref avZ, .ref awZ, .ref aoZ, .ref amZ, .ref lkZ, .ref lvZ, .ref luZ, .int (nI npZ), .int iwZ, .int imZ, .int ilZ, .int irZ, .int iuZ, .int iaZ, .int 0])), (akZ, .inl (I, 200, .inl fZ)), (avZ, .inl (I, 200, .inl gZ))] H) (hD : va_D A [(yZ, .inr (3, [.ref akZ, .ref avZ, .ref awZ, .ref aoZ, .ref amZ, .ref lkZ, .ref lvZ, .ref luZ, .int (nI npZ), .int iwZ, .int imZ, .int ilZ, .int irZ, .int iuZ, .int iaZ, .int 0])), (akZ, .inl (I, 200, .inl fZ)), (avZ, .inl (I, 200, .inl gZ))]) (hS : va_S A s.heap H locs) (ls : Array Slot) (hl : lv_has ls 4 [(0, .ref yZ), (1, .long x_1), (3, .int x_3)]), W p l e (mRm 0 0 0 0) s m args below meth c H locs 0 0 (MQ below (va_Ql (fun (x : Int64) (u : Unit) => x = (sumP fZ gZ npZ)) (mB D (fun (u : Unit) => [(yZ, .inr (3, [.ref akZ, .ref avZ, .ref awZ, .ref aoZ, .ref amZ, .ref lkZ, .ref lvZ, .ref luZ, .int (nI npZ), .int iwZ, .int imZ, .int ilZ, .int irZ, .int iuZ, .int iaZ, .int 0])), (akZ, .inl (I, 200, .inl fZ)), (avZ, .inl (I, 200, .inl gZ))]) A) A) args s 0 0 A) (F0 m 9 ls []) := by
    intro k_9
    induction k_9 with
    | zero => intro iZ x_1 ex_1 x_3 ex_3 hi hm_; exact absurd hm_ (Nat.not_lt_zero _)
    | succ k_9 ih_9 =>
      intro iZ x_1 ex_1 x_3 ex_3 hi hm_ H locs hP hD hS ls hl
      subst ex_1
      subst ex_3
      refine lv_iload_n hx hb dX3_sum_9 rfl (lv_at hl 2 rfl) ?_
      refine lv_aload_n hx hb dX3_sum_10 rfl (lv_at hl 0 rfl) ?_
      refine va_get (D := D) (ci := 3) (v := .int (nI npZ)) (C := RX3) (T := TX3) (N := 16) hx hb hts (fun _ h => List.mem_cons_of_mem _ (List.mem_append_right _ h)) hown hK hP 0 rfl rfl 8 (by decide) (hts (.fieldLink RX3 41 "MapsByUseModel" "pairs" "I") (List.mem_of_getElem? (i := 2) (by decide +kernel))) (fun _ h9 => h9) rfl dX3_sum_11 ?_
      refine lv_icmp_ge (tgt := 57) hx hb dX3_sum_14 (by decide) (fun c_14 => ?_) (fun c_14 => ?_)
      · --L914T
        have qq := (nI_leI (by omega) (by omega)).mp c_14
        have ee : iZ = npZ := by omega
        refine lv_lload_n hx hb dX3_sum_57 rfl (lv_at hl 1 rfl) ?_
        refine m_lret () hx hb hr hlocks hP hD hS dX3_sum_58 (by first | exact Nat.le_of_ble_eq_true rfl | omega) (by first | exact Nat.le_of_ble_eq_true rfl | omega) ?_
        rw [ee]
      · --L914F
        have hlt : iZ < npZ := by
          rcases Nat.lt_or_ge iZ npZ with q | q
          · exact q
          · exact absurd ((nI_leI (by omega) (by omega)).mpr q) c_14
        refine lv_lload_n hx hb dX3_sum_17 rfl (lv_at hl 1 rfl) ?_
        refine lv_ldc2 (v := 1000003) hx hb hown (hts (.constantLong RX3 84 (1000003)) (List.mem_of_getElem? (i := 3) (by decide +kernel))) dX3_sum_18 ?_
        refine lv_aload_n hx hb dX3_sum_21 rfl (lv_at hl 0 rfl) ?_
        refine va_get (D := D) (ci := 3) (v := .ref akZ) (C := RX3) (T := TX3) (N := 16) hx hb hts (fun _ h => List.mem_cons_of_mem _ (List.mem_append_right _ h)) hown hK hP 0 rfl rfl 0 (by decide) (hts (.fieldLink RX3 7 "MapsByUseModel" "keys" "[I") (List.mem_of_getElem? (i := 4) (by decide +kernel))) (fun _ h9 => h9) rfl dX3_sum_22 ?_
        refine lv_iload_n hx hb dX3_sum_25 rfl (lv_at hl 2 rfl) ?_
        refine m_iald (D := D) (cl := vwCl) hx hb hK hP 1 0 (j := iZ) rfl rfl (by rfl) (by omega) (by omega) dX3_sum_26 ?_
        refine lv_i2l (v := (fZ iZ).toInt64) hx hb dX3_sum_27 rfl ?_
        refine lv_lmul hx hb dX3_sum_28 ?_
        refine lv_aload_n hx hb dX3_sum_29 rfl (lv_at hl 0 rfl) ?_
        refine va_get (D := D) (ci := 3) (v := .ref avZ) (C := RX3) (T := TX3) (N := 16) hx hb hts (fun _ h => List.mem_cons_of_mem _ (List.mem_append_right _ h)) hown hK hP 0 rfl rfl 1 (by decide) (hts (.fieldLink RX3 13 "MapsByUseModel" "values" "[I") (List.mem_of_getElem? (i := 5) (by decide +kernel))) (fun _ h9 => h9) rfl dX3_sum_30 ?_
        refine lv_iload_n hx hb dX3_sum_33 rfl (lv_at hl 2 rfl) ?_
        refine m_iald (D := D) (cl := vwCl) hx hb hK hP 2 0 (j := iZ) rfl rfl (by rfl) (by omega) (by omega) dX3_sum_34 ?_
        refine lv_i2l (v := (gZ iZ).toInt64) hx hb dX3_sum_35 rfl ?_
        refine lv_ladd hx hb dX3_sum_36 ?_
        refine lv_aload_n hx hb dX3_sum_37 rfl (lv_at hl 0 rfl) ?_
        refine va_get (D := D) (ci := 3) (v := .ref avZ) (C := RX3) (T := TX3) (N := 16) hx hb hts (fun _ h => List.mem_cons_of_mem _ (List.mem_append_right _ h)) hown hK hP 0 rfl rfl 1 (by decide) (hts (.fieldLink RX3 13 "MapsByUseModel" "values" "[I") (List.mem_of_getElem? (i := 5) (by decide +kernel))) (fun _ h9 => h9) rfl dX3_sum_38 ?_
        refine lv_iload_n hx hb dX3_sum_41 rfl (lv_at hl 2 rfl) ?_
        refine m_iald (D := D) (cl := vwCl) hx hb hK hP 2 0 (j := iZ) rfl rfl (by rfl) (by omega) (by omega) dX3_sum_42 ?_
        refine lv_i2l (v := (gZ iZ).toInt64) hx hb dX3_sum_43 rfl ?_
        refine lv_ldc2 (v := 7) hx hb hown (hts (.constantLong RX3 86 (7)) (List.mem_of_getElem? (i := 6) (by decide +kernel))) dX3_sum_44 ?_
        refine lv_lsub hx hb dX3_sum_47 ?_
        refine lv_lmul hx hb dX3_sum_48 ?_
        refine lv_ladd hx hb dX3_sum_49 ?_
        refine lv_lstore_n (lv' := [(1, .long ((sumP fZ gZ iZ) + (((1000003 * ((fZ iZ).toInt64)) + ((gZ iZ).toInt64)) * (((gZ iZ).toInt64) - 7)))), (0, .ref yZ), (3, .int (nI iZ))]) hx hb dX3_sum_50 rfl hl (by decide) rfl (fun ls hl => ?_)
        refine lv_iinc (v := (nI (iZ + 1))) (lv' := [(3, .int (nI (iZ + 1))), (1, .long ((sumP fZ gZ iZ) + (((1000003 * ((fZ iZ).toInt64)) + ((gZ iZ).toInt64)) * (((gZ iZ).toInt64) - 7)))), (0, .ref yZ)]) hx hb dX3_sum_51 hl (k := 2) rfl (nI_1 _) (by decide) rfl (fun ls hl => ?_)
        refine lv_goto (tgt := 9) hx hb dX3_sum_54 (by decide) ?_
        exact ih_9  (iZ + 1) _ (by first | rfl | simp [nI_1, nI_0]) _ (by rfl) (by first | assumption | omega | rfl) (by omega) _ _ hP hD hS ls (lv_sub hl [2, 1, 0] rfl)
  exact loop_9 (npZ - 0 + 1) 0 _ (by first | rfl | simp [nI_1, nI_0]) _ (by first | rfl | simp [nI_1, nI_0]) (by first | assumption | omega | rfl) (by exact Nat.lt_succ_self _) _ _ hP hD hS ls (lv_sub hl [2, 1, 0] rfl)
