set_option maxHeartbeats 4000000 in
set_option maxRecDepth 100000 in
theorem c_X0_held (l : Launch) (D : va_G) (I J : ClassId) (sz : Nat) (PZ : Nat) (krZ : Nat) (kaZ : Nat) (vrZ : Nat) (nZ : Nat)  : mCi l yX0_held wsX0_held 1 20 0 0 D I J [.ref PZ] [(PZ, .inr (0, [.ref krZ, .ref vrZ])), (krZ, .inr (1, [.ref kaZ, .int (nI nZ)]))] sz (fun (x : Int32) (u : Unit) => x = (nI nZ)) (fun (u : Unit) => [(PZ, .inr (0, [.ref krZ, .ref vrZ])), (krZ, .inr (1, [.ref kaZ, .int (nI nZ)]))]) := by
  refine m_ofi (cc := cX0_held) (maxL := 1) (ret := (some .int)) (by decide) rfl (Nat.le_of_ble_eq_true rfl) ?_
  intro p e s m args below meth c A ls hx hb hr hlocks hml hts hown hin hK hP hD hA hS hl
  have hl : lv_has ls 1 [(0, .ref PZ)] := hl
  have hP : va_P D vwCl [(PZ, .inr (0, [.ref krZ, .ref vrZ])), (krZ, .inr (1, [.ref kaZ, .int (nI nZ)]))] s.heap := hP
  have hD : va_D A [(PZ, .inr (0, [.ref krZ, .ref vrZ])), (krZ, .inr (1, [.ref kaZ, .int (nI nZ)]))] := hD
  refine lv_aload_n hx hb dX0_held_0 rfl (lv_at hl 0 rfl) ?_
  refine va_get (D := D) (ci := 0) (v := .ref krZ) (C := RX0) (T := TX0) (N := 2) hx hb hts (fun _ h => List.mem_cons_of_mem _ (List.mem_append_left _ (List.mem_append_right _ h))) hown hK hP 0 rfl rfl 0 (by decide) (hts (.fieldLink RX0 14 "MapsByUse$Pairs" "keys" "LMapsByUse$Row;") (List.mem_of_getElem? (i := 1) (by decide +kernel))) (fun _ h9 => h9) rfl dX0_held_1 ?_
  refine m_Vi (As := []) (wr := [(PZ, .inr (0, [.ref krZ, .ref vrZ]))]) (ws2 := fun _ => [(PZ, .inr (0, [.ref krZ, .ref vrZ])), (krZ, .inr (1, [.ref kaZ, .int (nI nZ)]))]) ⟨hx, hb, hml, hown, hts⟩ hA hK hP hD hS hl.1 (c_X1_held l D I J s.heap.size krZ kaZ nZ ) (cwV 0 hts gX0_held_X1_held rfl rfl rfl (by decide +kernel) ⟨Nat.le_of_ble_eq_true rfl, Nat.le_of_ble_eq_true rfl⟩) [1] [0] [0, 1] 1 1 rfl rfl rfl rfl rfl (by decide) (by decide) (by decide) (by decide) (fun _ => rfl) rfl rfl (Nat.le_of_ble_eq_true rfl) dX0_held_4 ⟨(by exact Nat.le_of_ble_eq_true rfl), (by exact Nat.le_of_ble_eq_true rfl)⟩ (fun r_4 u_4 H locs hw_4 hP hD hS => ?_)
  try dsimp only at hw_4
  have hP : va_P D vwCl [(PZ, .inr (0, [.ref krZ, .ref vrZ])), (krZ, .inr (1, [.ref kaZ, .int (nI nZ)]))] H := hP
  have hD : va_D A [(PZ, .inr (0, [.ref krZ, .ref vrZ])), (krZ, .inr (1, [.ref kaZ, .int (nI nZ)]))] := hD
  subst hw_4
  refine m_iret () hx hb hr hlocks hP hD hS dX0_held_7 (by first | exact Nat.le_of_ble_eq_true rfl | omega) (by first | exact Nat.le_of_ble_eq_true rfl | omega) ?_
  rfl

set_option maxHeartbeats 4000000 in
set_option maxRecDepth 100000 in
theorem c_X0_placeOf (l : Launch) (D : va_G) (I J : ClassId) (sz : Nat) (PZ : Nat) (krZ : Nat) (kaZ : Nat) (vrZ : Nat) (nZ : Nat) (NZ : Nat) (fZ : Nat → Int32) (kZ : Int32) (hn : nZ ≤ NZ) (hN : NZ ≤ 1000) : mCi l yX0_placeOf wsX0_placeOf 1 22 0 0 D I J [.ref PZ, .int kZ] [(PZ, .inr (0, [.ref krZ, .ref vrZ])), (krZ, .inr (1, [.ref kaZ, .int (nI nZ)])), (kaZ, .inl (I, NZ, .inl fZ))] sz (fun (x : Int32) (u : Unit) => x = (iO (rF fZ kZ nZ))) (fun (u : Unit) => [(PZ, .inr (0, [.ref krZ, .ref vrZ])), (krZ, .inr (1, [.ref kaZ, .int (nI nZ)])), (kaZ, .inl (I, NZ, .inl fZ))]) := by
  refine m_ofi (cc := cX0_placeOf) (maxL := 2) (ret := (some .int)) (by decide) rfl (Nat.le_of_ble_eq_true rfl) ?_
  intro p e s m args below meth c A ls hx hb hr hlocks hml hts hown hin hK hP hD hA hS hl
  have hl : lv_has ls 2 [(0, .ref PZ), (1, .int kZ)] := hl
  have hP : va_P D vwCl [(PZ, .inr (0, [.ref krZ, .ref vrZ])), (krZ, .inr (1, [.ref kaZ, .int (nI nZ)])), (kaZ, .inl (I, NZ, .inl fZ))] s.heap := hP
  have hD : va_D A [(PZ, .inr (0, [.ref krZ, .ref vrZ])), (krZ, .inr (1, [.ref kaZ, .int (nI nZ)])), (kaZ, .inl (I, NZ, .inl fZ))] := hD
  refine lv_aload_n hx hb dX0_placeOf_0 rfl (lv_at hl 0 rfl) ?_
  refine va_get (D := D) (ci := 0) (v := .ref krZ) (C := RX0) (T := TX0) (N := 2) hx hb hts (fun _ h => List.mem_cons_of_mem _ (List.mem_append_left _ (List.mem_append_right _ h))) hown hK hP 0 rfl rfl 0 (by decide) (hts (.fieldLink RX0 14 "MapsByUse$Pairs" "keys" "LMapsByUse$Row;") (List.mem_of_getElem? (i := 1) (by decide +kernel))) (fun _ h9 => h9) rfl dX0_placeOf_1 ?_
  refine lv_iload_n hx hb dX0_placeOf_4 rfl (lv_at hl 1 rfl) ?_
  refine m_Vi (As := [.int kZ]) (wr := [(PZ, .inr (0, [.ref krZ, .ref vrZ]))]) (ws2 := fun _ => [(PZ, .inr (0, [.ref krZ, .ref vrZ])), (krZ, .inr (1, [.ref kaZ, .int (nI nZ)])), (kaZ, .inl (I, NZ, .inl fZ))]) ⟨hx, hb, hml, hown, hts⟩ hA hK hP hD hS hl.1 (c_X1_placeOf l D I J s.heap.size krZ kaZ nZ NZ fZ kZ (by omega) (by omega)) (cwV 1 hts gX0_placeOf_X1_placeOf rfl rfl rfl (by decide +kernel) ⟨Nat.le_of_ble_eq_true rfl, Nat.le_of_ble_eq_true rfl⟩) [1, 2] [0] [0, 1, 2] 1 1 rfl rfl rfl rfl rfl (by decide) (by decide) (by decide) (by decide) (fun _ => rfl) rfl rfl (Nat.le_of_ble_eq_true rfl) dX0_placeOf_5 ⟨(by exact Nat.le_of_ble_eq_true rfl), (by exact Nat.le_of_ble_eq_true rfl)⟩ (fun r_5 u_5 H locs hw_5 hP hD hS => ?_)
  try dsimp only at hw_5
  have hP : va_P D vwCl [(PZ, .inr (0, [.ref krZ, .ref vrZ])), (krZ, .inr (1, [.ref kaZ, .int (nI nZ)])), (kaZ, .inl (I, NZ, .inl fZ))] H := hP
  have hD : va_D A [(PZ, .inr (0, [.ref krZ, .ref vrZ])), (krZ, .inr (1, [.ref kaZ, .int (nI nZ)])), (kaZ, .inl (I, NZ, .inl fZ))] := hD
  subst hw_5
  refine m_iret () hx hb hr hlocks hP hD hS dX0_placeOf_8 (by first | exact Nat.le_of_ble_eq_true rfl | omega) (by first | exact Nat.le_of_ble_eq_true rfl | omega) ?_
  rfl

set_option maxHeartbeats 4000000 in
set_option maxRecDepth 100000 in
theorem c_X0_hasKey (l : Launch) (D : va_G) (I J : ClassId) (sz : Nat) (PZ : Nat) (krZ : Nat) (kaZ : Nat) (vrZ : Nat) (nZ : Nat) (NZ : Nat) (fZ : Nat → Int32) (kZ : Int32) (hn : nZ ≤ NZ) (hN : NZ ≤ 1000) : mCi l yX0_hasKey wsX0_hasKey 2 43 0 0 D I J [.ref PZ, .int kZ] [(PZ, .inr (0, [.ref krZ, .ref vrZ])), (krZ, .inr (1, [.ref kaZ, .int (nI nZ)])), (kaZ, .inl (I, NZ, .inl fZ))] sz (fun (x : Int32) (u : Unit) => x = (bI (rF fZ kZ nZ).isSome)) (fun (u : Unit) => [(PZ, .inr (0, [.ref krZ, .ref vrZ])), (krZ, .inr (1, [.ref kaZ, .int (nI nZ)])), (kaZ, .inl (I, NZ, .inl fZ))]) := by
  refine m_ofi (cc := cX0_hasKey) (maxL := 2) (ret := (some .boolean)) (by decide) rfl (Nat.le_of_ble_eq_true rfl) ?_
  intro p e s m args below meth c A ls hx hb hr hlocks hml hts hown hin hK hP hD hA hS hl
  have hl : lv_has ls 2 [(0, .ref PZ), (1, .int kZ)] := hl
  have hP : va_P D vwCl [(PZ, .inr (0, [.ref krZ, .ref vrZ])), (krZ, .inr (1, [.ref kaZ, .int (nI nZ)])), (kaZ, .inl (I, NZ, .inl fZ))] s.heap := hP
  have hD : va_D A [(PZ, .inr (0, [.ref krZ, .ref vrZ])), (krZ, .inr (1, [.ref kaZ, .int (nI nZ)])), (kaZ, .inl (I, NZ, .inl fZ))] := hD
  refine lv_aload_n hx hb dX0_hasKey_0 rfl (lv_at hl 0 rfl) ?_
  refine va_get (D := D) (ci := 0) (v := .ref krZ) (C := RX0) (T := TX0) (N := 2) hx hb hts (fun _ h => List.mem_cons_of_mem _ (List.mem_append_left _ (List.mem_append_right _ h))) hown hK hP 0 rfl rfl 0 (by decide) (hts (.fieldLink RX0 14 "MapsByUse$Pairs" "keys" "LMapsByUse$Row;") (List.mem_of_getElem? (i := 1) (by decide +kernel))) (fun _ h9 => h9) rfl dX0_hasKey_1 ?_
  refine lv_iload_n hx hb dX0_hasKey_4 rfl (lv_at hl 1 rfl) ?_
  refine m_Vi (As := [.int kZ]) (wr := [(PZ, .inr (0, [.ref krZ, .ref vrZ]))]) (ws2 := fun _ => [(PZ, .inr (0, [.ref krZ, .ref vrZ])), (krZ, .inr (1, [.ref kaZ, .int (nI nZ)])), (kaZ, .inl (I, NZ, .inl fZ))]) ⟨hx, hb, hml, hown, hts⟩ hA hK hP hD hS hl.1 (c_X1_has l D I J s.heap.size krZ kaZ nZ NZ fZ kZ (by omega) (by omega)) (cwV 1 hts gX0_hasKey_X1_has rfl rfl rfl (by decide +kernel) ⟨Nat.le_of_ble_eq_true rfl, Nat.le_of_ble_eq_true rfl⟩) [1, 2] [0] [0, 1, 2] 1 1 rfl rfl rfl rfl rfl (by decide) (by decide) (by decide) (by decide) (fun _ => rfl) rfl rfl (Nat.le_of_ble_eq_true rfl) dX0_hasKey_5 ⟨(by exact Nat.le_of_ble_eq_true rfl), (by exact Nat.le_of_ble_eq_true rfl)⟩ (fun r_5 u_5 H locs hw_5 hP hD hS => ?_)
  try dsimp only at hw_5
  have hP : va_P D vwCl [(PZ, .inr (0, [.ref krZ, .ref vrZ])), (krZ, .inr (1, [.ref kaZ, .int (nI nZ)])), (kaZ, .inl (I, NZ, .inl fZ))] H := hP
  have hD : va_D A [(PZ, .inr (0, [.ref krZ, .ref vrZ])), (krZ, .inr (1, [.ref kaZ, .int (nI nZ)])), (kaZ, .inl (I, NZ, .inl fZ))] := hD
  subst hw_5
  refine m_zret () hx hb hr hlocks hP hD hS dX0_hasKey_8 (by first | exact Nat.le_of_ble_eq_true rfl | omega) (by first | exact Nat.le_of_ble_eq_true rfl | omega) (by exact bI_nar _) ?_
  rfl

set_option maxHeartbeats 4000000 in
set_option maxRecDepth 100000 in
theorem c_X0_hasValue (l : Launch) (D : va_G) (I J : ClassId) (sz : Nat) (PZ : Nat) (krZ : Nat) (vrZ : Nat) (vaZ : Nat) (nZ : Nat) (NZ : Nat) (gZ : Nat → Int32) (vZ : Int32) (hn : nZ ≤ NZ) (hN : NZ ≤ 1000) : mCi l yX0_hasValue wsX0_hasValue 2 43 0 0 D I J [.ref PZ, .int vZ] [(PZ, .inr (0, [.ref krZ, .ref vrZ])), (vrZ, .inr (1, [.ref vaZ, .int (nI nZ)])), (vaZ, .inl (I, NZ, .inl gZ))] sz (fun (x : Int32) (u : Unit) => x = (bI (rF gZ vZ nZ).isSome)) (fun (u : Unit) => [(PZ, .inr (0, [.ref krZ, .ref vrZ])), (vrZ, .inr (1, [.ref vaZ, .int (nI nZ)])), (vaZ, .inl (I, NZ, .inl gZ))]) := by
  refine m_ofi (cc := cX0_hasValue) (maxL := 2) (ret := (some .boolean)) (by decide) rfl (Nat.le_of_ble_eq_true rfl) ?_
  intro p e s m args below meth c A ls hx hb hr hlocks hml hts hown hin hK hP hD hA hS hl
  have hl : lv_has ls 2 [(0, .ref PZ), (1, .int vZ)] := hl
  have hP : va_P D vwCl [(PZ, .inr (0, [.ref krZ, .ref vrZ])), (vrZ, .inr (1, [.ref vaZ, .int (nI nZ)])), (vaZ, .inl (I, NZ, .inl gZ))] s.heap := hP
  have hD : va_D A [(PZ, .inr (0, [.ref krZ, .ref vrZ])), (vrZ, .inr (1, [.ref vaZ, .int (nI nZ)])), (vaZ, .inl (I, NZ, .inl gZ))] := hD
  refine lv_aload_n hx hb dX0_hasValue_0 rfl (lv_at hl 0 rfl) ?_
  refine va_get (D := D) (ci := 0) (v := .ref vrZ) (C := RX0) (T := TX0) (N := 2) hx hb hts (fun _ h => List.mem_cons_of_mem _ (List.mem_append_left _ (List.mem_append_right _ h))) hown hK hP 0 rfl rfl 1 (by decide) (hts (.fieldLink RX0 20 "MapsByUse$Pairs" "values" "LMapsByUse$Row;") (List.mem_of_getElem? (i := 1) (by decide +kernel))) (fun _ h9 => h9) rfl dX0_hasValue_1 ?_
  refine lv_iload_n hx hb dX0_hasValue_4 rfl (lv_at hl 1 rfl) ?_
  refine m_Vi (As := [.int vZ]) (wr := [(PZ, .inr (0, [.ref krZ, .ref vrZ]))]) (ws2 := fun _ => [(PZ, .inr (0, [.ref krZ, .ref vrZ])), (vrZ, .inr (1, [.ref vaZ, .int (nI nZ)])), (vaZ, .inl (I, NZ, .inl gZ))]) ⟨hx, hb, hml, hown, hts⟩ hA hK hP hD hS hl.1 (c_X1_has l D I J s.heap.size vrZ vaZ nZ NZ gZ vZ (by omega) (by omega)) (cwV 1 hts gX0_hasValue_X1_has rfl rfl rfl (by decide +kernel) ⟨Nat.le_of_ble_eq_true rfl, Nat.le_of_ble_eq_true rfl⟩) [1, 2] [0] [0, 1, 2] 1 1 rfl rfl rfl rfl rfl (by decide) (by decide) (by decide) (by decide) (fun _ => rfl) rfl rfl (Nat.le_of_ble_eq_true rfl) dX0_hasValue_5 ⟨(by exact Nat.le_of_ble_eq_true rfl), (by exact Nat.le_of_ble_eq_true rfl)⟩ (fun r_5 u_5 H locs hw_5 hP hD hS => ?_)
  try dsimp only at hw_5
  have hP : va_P D vwCl [(PZ, .inr (0, [.ref krZ, .ref vrZ])), (vrZ, .inr (1, [.ref vaZ, .int (nI nZ)])), (vaZ, .inl (I, NZ, .inl gZ))] H := hP
  have hD : va_D A [(PZ, .inr (0, [.ref krZ, .ref vrZ])), (vrZ, .inr (1, [.ref vaZ, .int (nI nZ)])), (vaZ, .inl (I, NZ, .inl gZ))] := hD
  subst hw_5
  refine m_zret () hx hb hr hlocks hP hD hS dX0_hasValue_8 (by first | exact Nat.le_of_ble_eq_true rfl | omega) (by first | exact Nat.le_of_ble_eq_true rfl | omega) (by exact bI_nar _) ?_
  rfl

set_option maxHeartbeats 4000000 in
set_option maxRecDepth 100000 in
theorem c_X0_keyIn (l : Launch) (D : va_G) (I J : ClassId) (sz : Nat) (PZ : Nat) (krZ : Nat) (kaZ : Nat) (vrZ : Nat) (nZ : Nat) (NZ : Nat) (fZ : Nat → Int32) (jZ : Nat) (hj : jZ < nZ) (hn : nZ ≤ NZ) (hN : NZ ≤ 1000) : mCi l yX0_keyIn wsX0_keyIn 2 42 0 0 D I J [.ref PZ, .int (nI jZ)] [(PZ, .inr (0, [.ref krZ, .ref vrZ])), (krZ, .inr (1, [.ref kaZ, .int (nI nZ)])), (kaZ, .inl (I, NZ, .inl fZ))] sz (fun (x : Int32) (u : Unit) => x = (fZ jZ)) (fun (u : Unit) => [(PZ, .inr (0, [.ref krZ, .ref vrZ])), (krZ, .inr (1, [.ref kaZ, .int (nI nZ)])), (kaZ, .inl (I, NZ, .inl fZ))]) := by
  refine m_ofi (cc := cX0_keyIn) (maxL := 2) (ret := (some .int)) (by decide) rfl (Nat.le_of_ble_eq_true rfl) ?_
  intro p e s m args below meth c A ls hx hb hr hlocks hml hts hown hin hK hP hD hA hS hl
  have hl : lv_has ls 2 [(0, .ref PZ), (1, .int (nI jZ))] := hl
  have hP : va_P D vwCl [(PZ, .inr (0, [.ref krZ, .ref vrZ])), (krZ, .inr (1, [.ref kaZ, .int (nI nZ)])), (kaZ, .inl (I, NZ, .inl fZ))] s.heap := hP
  have hD : va_D A [(PZ, .inr (0, [.ref krZ, .ref vrZ])), (krZ, .inr (1, [.ref kaZ, .int (nI nZ)])), (kaZ, .inl (I, NZ, .inl fZ))] := hD
  refine lv_aload_n hx hb dX0_keyIn_0 rfl (lv_at hl 0 rfl) ?_
  refine va_get (D := D) (ci := 0) (v := .ref krZ) (C := RX0) (T := TX0) (N := 2) hx hb hts (fun _ h => List.mem_cons_of_mem _ (List.mem_append_left _ (List.mem_append_right _ h))) hown hK hP 0 rfl rfl 0 (by decide) (hts (.fieldLink RX0 14 "MapsByUse$Pairs" "keys" "LMapsByUse$Row;") (List.mem_of_getElem? (i := 1) (by decide +kernel))) (fun _ h9 => h9) rfl dX0_keyIn_1 ?_
  refine lv_iload_n hx hb dX0_keyIn_4 rfl (lv_at hl 1 rfl) ?_
  refine m_Vi (As := [.int (nI jZ)]) (wr := [(PZ, .inr (0, [.ref krZ, .ref vrZ]))]) (ws2 := fun _ => [(PZ, .inr (0, [.ref krZ, .ref vrZ])), (krZ, .inr (1, [.ref kaZ, .int (nI nZ)])), (kaZ, .inl (I, NZ, .inl fZ))]) ⟨hx, hb, hml, hown, hts⟩ hA hK hP hD hS hl.1 (c_X1_at l D I J s.heap.size krZ kaZ nZ NZ fZ jZ (by assumption) (by omega) (by omega)) (cwV 1 hts gX0_keyIn_X1_at rfl rfl rfl (by decide +kernel) ⟨Nat.le_of_ble_eq_true rfl, Nat.le_of_ble_eq_true rfl⟩) [1, 2] [0] [0, 1, 2] 1 1 rfl rfl rfl rfl rfl (by decide) (by decide) (by decide) (by decide) (fun _ => rfl) rfl rfl (Nat.le_of_ble_eq_true rfl) dX0_keyIn_5 ⟨(by exact Nat.le_of_ble_eq_true rfl), (by exact Nat.le_of_ble_eq_true rfl)⟩ (fun r_5 u_5 H locs hw_5 hP hD hS => ?_)
  try dsimp only at hw_5
  have hP : va_P D vwCl [(PZ, .inr (0, [.ref krZ, .ref vrZ])), (krZ, .inr (1, [.ref kaZ, .int (nI nZ)])), (kaZ, .inl (I, NZ, .inl fZ))] H := hP
  have hD : va_D A [(PZ, .inr (0, [.ref krZ, .ref vrZ])), (krZ, .inr (1, [.ref kaZ, .int (nI nZ)])), (kaZ, .inl (I, NZ, .inl fZ))] := hD
  subst hw_5
  refine m_iret () hx hb hr hlocks hP hD hS dX0_keyIn_8 (by first | exact Nat.le_of_ble_eq_true rfl | omega) (by first | exact Nat.le_of_ble_eq_true rfl | omega) ?_
  rfl

set_option maxHeartbeats 4000000 in
set_option maxRecDepth 100000 in
theorem c_X0_valueIn (l : Launch) (D : va_G) (I J : ClassId) (sz : Nat) (PZ : Nat) (krZ : Nat) (vrZ : Nat) (vaZ : Nat) (nZ : Nat) (NZ : Nat) (gZ : Nat → Int32) (jZ : Nat) (hj : jZ < nZ) (hn : nZ ≤ NZ) (hN : NZ ≤ 1000) : mCi l yX0_valueIn wsX0_valueIn 2 42 0 0 D I J [.ref PZ, .int (nI jZ)] [(PZ, .inr (0, [.ref krZ, .ref vrZ])), (vrZ, .inr (1, [.ref vaZ, .int (nI nZ)])), (vaZ, .inl (I, NZ, .inl gZ))] sz (fun (x : Int32) (u : Unit) => x = (gZ jZ)) (fun (u : Unit) => [(PZ, .inr (0, [.ref krZ, .ref vrZ])), (vrZ, .inr (1, [.ref vaZ, .int (nI nZ)])), (vaZ, .inl (I, NZ, .inl gZ))]) := by
  refine m_ofi (cc := cX0_valueIn) (maxL := 2) (ret := (some .int)) (by decide) rfl (Nat.le_of_ble_eq_true rfl) ?_
  intro p e s m args below meth c A ls hx hb hr hlocks hml hts hown hin hK hP hD hA hS hl
  have hl : lv_has ls 2 [(0, .ref PZ), (1, .int (nI jZ))] := hl
  have hP : va_P D vwCl [(PZ, .inr (0, [.ref krZ, .ref vrZ])), (vrZ, .inr (1, [.ref vaZ, .int (nI nZ)])), (vaZ, .inl (I, NZ, .inl gZ))] s.heap := hP
  have hD : va_D A [(PZ, .inr (0, [.ref krZ, .ref vrZ])), (vrZ, .inr (1, [.ref vaZ, .int (nI nZ)])), (vaZ, .inl (I, NZ, .inl gZ))] := hD
  refine lv_aload_n hx hb dX0_valueIn_0 rfl (lv_at hl 0 rfl) ?_
  refine va_get (D := D) (ci := 0) (v := .ref vrZ) (C := RX0) (T := TX0) (N := 2) hx hb hts (fun _ h => List.mem_cons_of_mem _ (List.mem_append_left _ (List.mem_append_right _ h))) hown hK hP 0 rfl rfl 1 (by decide) (hts (.fieldLink RX0 20 "MapsByUse$Pairs" "values" "LMapsByUse$Row;") (List.mem_of_getElem? (i := 1) (by decide +kernel))) (fun _ h9 => h9) rfl dX0_valueIn_1 ?_
  refine lv_iload_n hx hb dX0_valueIn_4 rfl (lv_at hl 1 rfl) ?_
  refine m_Vi (As := [.int (nI jZ)]) (wr := [(PZ, .inr (0, [.ref krZ, .ref vrZ]))]) (ws2 := fun _ => [(PZ, .inr (0, [.ref krZ, .ref vrZ])), (vrZ, .inr (1, [.ref vaZ, .int (nI nZ)])), (vaZ, .inl (I, NZ, .inl gZ))]) ⟨hx, hb, hml, hown, hts⟩ hA hK hP hD hS hl.1 (c_X1_at l D I J s.heap.size vrZ vaZ nZ NZ gZ jZ (by assumption) (by omega) (by omega)) (cwV 1 hts gX0_valueIn_X1_at rfl rfl rfl (by decide +kernel) ⟨Nat.le_of_ble_eq_true rfl, Nat.le_of_ble_eq_true rfl⟩) [1, 2] [0] [0, 1, 2] 1 1 rfl rfl rfl rfl rfl (by decide) (by decide) (by decide) (by decide) (fun _ => rfl) rfl rfl (Nat.le_of_ble_eq_true rfl) dX0_valueIn_5 ⟨(by exact Nat.le_of_ble_eq_true rfl), (by exact Nat.le_of_ble_eq_true rfl)⟩ (fun r_5 u_5 H locs hw_5 hP hD hS => ?_)
  try dsimp only at hw_5
  have hP : va_P D vwCl [(PZ, .inr (0, [.ref krZ, .ref vrZ])), (vrZ, .inr (1, [.ref vaZ, .int (nI nZ)])), (vaZ, .inl (I, NZ, .inl gZ))] H := hP
  have hD : va_D A [(PZ, .inr (0, [.ref krZ, .ref vrZ])), (vrZ, .inr (1, [.ref vaZ, .int (nI nZ)])), (vaZ, .inl (I, NZ, .inl gZ))] := hD
  subst hw_5
  refine m_iret () hx hb hr hlocks hP hD hS dX0_valueIn_8 (by first | exact Nat.le_of_ble_eq_true rfl | omega) (by first | exact Nat.le_of_ble_eq_true rfl | omega) ?_
  rfl

set_option maxHeartbeats 4000000 in
set_option maxRecDepth 100000 in
theorem c_X0_valueOr (l : Launch) (D : va_G) (I J : ClassId) (sz : Nat) (PZ : Nat) (krZ : Nat) (vrZ : Nat) (vaZ : Nat) (nZ : Nat) (NZ : Nat) (gZ : Nat → Int32) (oZ : Option Nat) (otherZ : Int32) (ho : ∀ jZ, oZ = some jZ → jZ < nZ) (hn : nZ ≤ NZ) (hN : NZ ≤ 1000) : mCi l yX0_valueOr wsX0_valueOr 2 42 0 0 D I J [.ref PZ, .int (iO oZ), .int otherZ] [(PZ, .inr (0, [.ref krZ, .ref vrZ])), (vrZ, .inr (1, [.ref vaZ, .int (nI nZ)])), (vaZ, .inl (I, NZ, .inl gZ))] sz (fun (x : Int32) (u : Unit) => x = (orO gZ otherZ oZ)) (fun (u : Unit) => [(PZ, .inr (0, [.ref krZ, .ref vrZ])), (vrZ, .inr (1, [.ref vaZ, .int (nI nZ)])), (vaZ, .inl (I, NZ, .inl gZ))]) := by
  refine m_ofi (cc := cX0_valueOr) (maxL := 3) (ret := (some .int)) (by decide) rfl (Nat.le_of_ble_eq_true rfl) ?_
  intro p e s m args below meth c A ls hx hb hr hlocks hml hts hown hin hK hP hD hA hS hl
  have hl : lv_has ls 3 [(0, .ref PZ), (1, .int (iO oZ)), (2, .int otherZ)] := hl
  have hP : va_P D vwCl [(PZ, .inr (0, [.ref krZ, .ref vrZ])), (vrZ, .inr (1, [.ref vaZ, .int (nI nZ)])), (vaZ, .inl (I, NZ, .inl gZ))] s.heap := hP
  have hD : va_D A [(PZ, .inr (0, [.ref krZ, .ref vrZ])), (vrZ, .inr (1, [.ref vaZ, .int (nI nZ)])), (vaZ, .inl (I, NZ, .inl gZ))] := hD
  refine lv_iload_n hx hb dX0_valueOr_0 rfl (lv_at hl 1 rfl) ?_
  refine lv_iconst (v := (-1)) hx hb dX0_valueOr_1 (by decide) ?_
  refine lv_icmp_ne (tgt := 9) hx hb dX0_valueOr_2 (by decide) (fun c_2 => ?_) (fun c_2 => ?_)
  · --2T
    obtain ⟨jZ, rfl⟩ := iO_ne c_2
    have hj := ho jZ rfl
    refine lv_aload_n hx hb dX0_valueOr_9 rfl (lv_at hl 0 rfl) ?_
    refine va_get (D := D) (ci := 0) (v := .ref vrZ) (C := RX0) (T := TX0) (N := 2) hx hb hts (fun _ h => List.mem_cons_of_mem _ (List.mem_append_left _ (List.mem_append_right _ h))) hown hK hP 0 rfl rfl 1 (by decide) (hts (.fieldLink RX0 20 "MapsByUse$Pairs" "values" "LMapsByUse$Row;") (List.mem_of_getElem? (i := 1) (by decide +kernel))) (fun _ h9 => h9) rfl dX0_valueOr_10 ?_
    refine lv_iload_n hx hb dX0_valueOr_13 rfl (lv_at hl 1 rfl) ?_
    refine m_Vi (As := [.int (iO (some jZ))]) (wr := [(PZ, .inr (0, [.ref krZ, .ref vrZ]))]) (ws2 := fun _ => [(PZ, .inr (0, [.ref krZ, .ref vrZ])), (vrZ, .inr (1, [.ref vaZ, .int (nI nZ)])), (vaZ, .inl (I, NZ, .inl gZ))]) ⟨hx, hb, hml, hown, hts⟩ hA hK hP hD hS hl.1 (c_X1_at l D I J s.heap.size vrZ vaZ nZ NZ gZ jZ (by assumption) (by omega) (by omega)) (cwV 1 hts gX0_valueOr_X1_at rfl rfl rfl (by decide +kernel) ⟨Nat.le_of_ble_eq_true rfl, Nat.le_of_ble_eq_true rfl⟩) [1, 2] [0] [0, 1, 2] 1 1 rfl rfl rfl rfl rfl (by decide) (by decide) (by decide) (by decide) (fun _ => rfl) rfl rfl (Nat.le_of_ble_eq_true rfl) dX0_valueOr_14 ⟨(by exact Nat.le_of_ble_eq_true rfl), (by exact Nat.le_of_ble_eq_true rfl)⟩ (fun r_14 u_14 H locs hw_14 hP hD hS => ?_)
    try dsimp only at hw_14
    have hP : va_P D vwCl [(PZ, .inr (0, [.ref krZ, .ref vrZ])), (vrZ, .inr (1, [.ref vaZ, .int (nI nZ)])), (vaZ, .inl (I, NZ, .inl gZ))] H := hP
    have hD : va_D A [(PZ, .inr (0, [.ref krZ, .ref vrZ])), (vrZ, .inr (1, [.ref vaZ, .int (nI nZ)])), (vaZ, .inl (I, NZ, .inl gZ))] := hD
    subst hw_14
    refine m_iret () hx hb hr hlocks hP hD hS dX0_valueOr_17 (by first | exact Nat.le_of_ble_eq_true rfl | omega) (by first | exact Nat.le_of_ble_eq_true rfl | omega) ?_
    rfl
  · --2F
    refine lv_iload_n hx hb dX0_valueOr_5 rfl (lv_at hl 2 rfl) ?_
    refine lv_goto (tgt := 17) hx hb dX0_valueOr_6 (by decide) ?_
    refine m_iret () hx hb hr hlocks hP hD hS dX0_valueOr_17 (by first | exact Nat.le_of_ble_eq_true rfl | omega) (by first | exact Nat.le_of_ble_eq_true rfl | omega) ?_
    rw [(iO_m1 (fun jZ h => by have := ho jZ h; omega)).mp c_2]; rfl

set_option maxHeartbeats 4000000 in
set_option maxRecDepth 100000 in
theorem c_X0_valueOrNone (l : Launch) (D : va_G) (I J : ClassId) (sz : Nat) (PZ : Nat) (krZ : Nat) (vrZ : Nat) (vaZ : Nat) (nZ : Nat) (NZ : Nat) (gZ : Nat → Int32) (oZ : Option Nat) (ho : ∀ jZ, oZ = some jZ → jZ < nZ) (hn : nZ ≤ NZ) (hN : NZ ≤ 1000) : mCl l yX0_valueOrNone wsX0_valueOrNone 2 42 0 0 D I J [.ref PZ, .int (iO oZ)] [(PZ, .inr (0, [.ref krZ, .ref vrZ])), (vrZ, .inr (1, [.ref vaZ, .int (nI nZ)])), (vaZ, .inl (I, NZ, .inl gZ))] sz (fun (x : Int64) (u : Unit) => x = (oN gZ oZ)) (fun (u : Unit) => [(PZ, .inr (0, [.ref krZ, .ref vrZ])), (vrZ, .inr (1, [.ref vaZ, .int (nI nZ)])), (vaZ, .inl (I, NZ, .inl gZ))]) := by
  refine m_ofl (cc := cX0_valueOrNone) (maxL := 2) (ret := (some .long)) (by decide) rfl (Nat.le_of_ble_eq_true rfl) ?_
  intro p e s m args below meth c A ls hx hb hr hlocks hml hts hown hin hK hP hD hA hS hl
  have hl : lv_has ls 2 [(0, .ref PZ), (1, .int (iO oZ))] := hl
  have hP : va_P D vwCl [(PZ, .inr (0, [.ref krZ, .ref vrZ])), (vrZ, .inr (1, [.ref vaZ, .int (nI nZ)])), (vaZ, .inl (I, NZ, .inl gZ))] s.heap := hP
  have hD : va_D A [(PZ, .inr (0, [.ref krZ, .ref vrZ])), (vrZ, .inr (1, [.ref vaZ, .int (nI nZ)])), (vaZ, .inl (I, NZ, .inl gZ))] := hD
  refine lv_iload_n hx hb dX0_valueOrNone_0 rfl (lv_at hl 1 rfl) ?_
  refine lv_iconst (v := (-1)) hx hb dX0_valueOrNone_1 (by decide) ?_
  refine lv_icmp_ne (tgt := 11) hx hb dX0_valueOrNone_2 (by decide) (fun c_2 => ?_) (fun c_2 => ?_)
  · --2T
    obtain ⟨jZ, rfl⟩ := iO_ne c_2
    have hj := ho jZ rfl
    refine lv_aload_n hx hb dX0_valueOrNone_11 rfl (lv_at hl 0 rfl) ?_
    refine va_get (D := D) (ci := 0) (v := .ref vrZ) (C := RX0) (T := TX0) (N := 2) hx hb hts (fun _ h => List.mem_cons_of_mem _ (List.mem_append_left _ (List.mem_append_right _ h))) hown hK hP 0 rfl rfl 1 (by decide) (hts (.fieldLink RX0 20 "MapsByUse$Pairs" "values" "LMapsByUse$Row;") (List.mem_of_getElem? (i := 2) (by decide +kernel))) (fun _ h9 => h9) rfl dX0_valueOrNone_12 ?_
    refine lv_iload_n hx hb dX0_valueOrNone_15 rfl (lv_at hl 1 rfl) ?_
    refine m_Vi (As := [.int (iO (some jZ))]) (wr := [(PZ, .inr (0, [.ref krZ, .ref vrZ]))]) (ws2 := fun _ => [(PZ, .inr (0, [.ref krZ, .ref vrZ])), (vrZ, .inr (1, [.ref vaZ, .int (nI nZ)])), (vaZ, .inl (I, NZ, .inl gZ))]) ⟨hx, hb, hml, hown, hts⟩ hA hK hP hD hS hl.1 (c_X1_at l D I J s.heap.size vrZ vaZ nZ NZ gZ jZ (by assumption) (by omega) (by omega)) (cwV 1 hts gX0_valueOrNone_X1_at rfl rfl rfl (by decide +kernel) ⟨Nat.le_of_ble_eq_true rfl, Nat.le_of_ble_eq_true rfl⟩) [1, 2] [0] [0, 1, 2] 1 1 rfl rfl rfl rfl rfl (by decide) (by decide) (by decide) (by decide) (fun _ => rfl) rfl rfl (Nat.le_of_ble_eq_true rfl) dX0_valueOrNone_16 ⟨(by exact Nat.le_of_ble_eq_true rfl), (by exact Nat.le_of_ble_eq_true rfl)⟩ (fun r_16 u_16 H locs hw_16 hP hD hS => ?_)
    try dsimp only at hw_16
    have hP : va_P D vwCl [(PZ, .inr (0, [.ref krZ, .ref vrZ])), (vrZ, .inr (1, [.ref vaZ, .int (nI nZ)])), (vaZ, .inl (I, NZ, .inl gZ))] H := hP
    have hD : va_D A [(PZ, .inr (0, [.ref krZ, .ref vrZ])), (vrZ, .inr (1, [.ref vaZ, .int (nI nZ)])), (vaZ, .inl (I, NZ, .inl gZ))] := hD
    subst hw_16
    refine lv_i2l (v := (gZ jZ).toInt64) hx hb dX0_valueOrNone_19 rfl ?_
    refine m_lret () hx hb hr hlocks hP hD hS dX0_valueOrNone_20 (by first | exact Nat.le_of_ble_eq_true rfl | omega) (by first | exact Nat.le_of_ble_eq_true rfl | omega) ?_
    rfl
  · --2F
    refine lv_ldc2 (v := 4294967296) hx hb hown (hts (.constantLong RX0 38 (4294967296)) (List.mem_of_getElem? (i := 1) (by decide +kernel))) dX0_valueOrNone_5 ?_
    refine lv_goto (tgt := 20) hx hb dX0_valueOrNone_8 (by decide) ?_
    refine m_lret () hx hb hr hlocks hP hD hS dX0_valueOrNone_20 (by first | exact Nat.le_of_ble_eq_true rfl | omega) (by first | exact Nat.le_of_ble_eq_true rfl | omega) ?_
    rw [(iO_m1 (fun jZ h => by have := ho jZ h; omega)).mp c_2]; rfl

set_option maxHeartbeats 4000000 in
set_option maxRecDepth 100000 in
theorem c_X0_setValue (l : Launch) (D : va_G) (I J : ClassId) (sz : Nat) (PZ : Nat) (krZ : Nat) (vrZ : Nat) (vaZ : Nat) (nZ : Nat) (NZ : Nat) (gZ : Nat → Int32) (oZ : Option Nat) (vZ : Int32) (ho : ∀ jZ, oZ = some jZ → jZ < nZ) (hn : nZ ≤ NZ) (hN : NZ ≤ 1000) : mCv l yX0_setValue wsX0_setValue 2 43 0 0 D I J [.ref PZ, .int (iO oZ), .int vZ] [(PZ, .inr (0, [.ref krZ, .ref vrZ])), (vrZ, .inr (1, [.ref vaZ, .int (nI nZ)])), (vaZ, .inl (I, NZ, .inl gZ))] sz (fun (u : Unit) => True) (fun (u : Unit) => [(PZ, .inr (0, [.ref krZ, .ref vrZ])), (vrZ, .inr (1, [.ref vaZ, .int (nI nZ)])), (vaZ, .inl (I, NZ, .inl (setO gZ vZ oZ)))]) := by
  refine m_ofv (cc := cX0_setValue) (maxL := 3) (ret := none) (by decide) rfl (Nat.le_of_ble_eq_true rfl) ?_
  intro p e s m args below meth c A ls hx hb hr hlocks hml hts hown hin hK hP hD hA hS hl
  have hl : lv_has ls 3 [(0, .ref PZ), (1, .int (iO oZ)), (2, .int vZ)] := hl
  have hP : va_P D vwCl [(PZ, .inr (0, [.ref krZ, .ref vrZ])), (vrZ, .inr (1, [.ref vaZ, .int (nI nZ)])), (vaZ, .inl (I, NZ, .inl gZ))] s.heap := hP
  have hD : va_D A [(PZ, .inr (0, [.ref krZ, .ref vrZ])), (vrZ, .inr (1, [.ref vaZ, .int (nI nZ)])), (vaZ, .inl (I, NZ, .inl gZ))] := hD
  refine lv_aload_n hx hb dX0_setValue_0 rfl (lv_at hl 0 rfl) ?_
  refine va_get (D := D) (ci := 0) (v := .ref vrZ) (C := RX0) (T := TX0) (N := 2) hx hb hts (fun _ h => List.mem_cons_of_mem _ (List.mem_append_left _ (List.mem_append_right _ h))) hown hK hP 0 rfl rfl 1 (by decide) (hts (.fieldLink RX0 20 "MapsByUse$Pairs" "values" "LMapsByUse$Row;") (List.mem_of_getElem? (i := 1) (by decide +kernel))) (fun _ h9 => h9) rfl dX0_setValue_1 ?_
  refine lv_iload_n hx hb dX0_setValue_4 rfl (lv_at hl 1 rfl) ?_
  refine lv_iload_n hx hb dX0_setValue_5 rfl (lv_at hl 2 rfl) ?_
  refine m_Vv (As := [.int (iO oZ), .int vZ]) (wr := [(PZ, .inr (0, [.ref krZ, .ref vrZ]))]) (ws2 := fun _ => [(PZ, .inr (0, [.ref krZ, .ref vrZ])), (vrZ, .inr (1, [.ref vaZ, .int (nI nZ)])), (vaZ, .inl (I, NZ, .inl (setO gZ vZ oZ)))]) ⟨hx, hb, hml, hown, hts⟩ hA hK hP hD hS hl.1 (c_X1_setAt l D I J s.heap.size vrZ vaZ nZ NZ gZ oZ vZ (by assumption) (by omega) (by omega)) (cwV 2 hts gX0_setValue_X1_setAt rfl rfl rfl (by decide +kernel) ⟨Nat.le_of_ble_eq_true rfl, Nat.le_of_ble_eq_true rfl⟩) [1, 2] [0] [0, 1, 2] 1 1 rfl rfl rfl rfl rfl (by decide) (by decide) (by decide) (by decide) (fun _ => rfl) rfl rfl (Nat.le_of_ble_eq_true rfl) dX0_setValue_6 ⟨(by exact Nat.le_of_ble_eq_true rfl), (by exact Nat.le_of_ble_eq_true rfl)⟩ (fun u_6 H locs hw_6 hP hD hS => ?_)
  clear hw_6
  have hP : va_P D vwCl [(PZ, .inr (0, [.ref krZ, .ref vrZ])), (vrZ, .inr (1, [.ref vaZ, .int (nI nZ)])), (vaZ, .inl (I, NZ, .inl (setO gZ vZ oZ)))] H := hP
  have hD : va_D A [(PZ, .inr (0, [.ref krZ, .ref vrZ])), (vrZ, .inr (1, [.ref vaZ, .int (nI nZ)])), (vaZ, .inl (I, NZ, .inl (setO gZ vZ oZ)))] := hD
  refine m_vret () hx hb hr hlocks hP hD hS dX0_setValue_9 (by first | exact Nat.le_of_ble_eq_true rfl | omega) (by first | exact Nat.le_of_ble_eq_true rfl | omega) ?_
  trivial

set_option maxHeartbeats 4000000 in
set_option maxRecDepth 100000 in
theorem c_X0_append (l : Launch) (D : va_G) (I J : ClassId) (sz : Nat) (PZ : Nat) (krZ : Nat) (kaZ : Nat) (vrZ : Nat) (vaZ : Nat) (nZ : Nat) (NZ : Nat) (fZ : Nat → Int32) (gZ : Nat → Int32) (kZ : Int32) (vZ : Int32) (hlt : nZ < NZ) (hN : NZ ≤ 1000) : mCv l yX0_append wsX0_append 1 21 0 0 D I J [.ref PZ, .int kZ, .int vZ] [(PZ, .inr (0, [.ref krZ, .ref vrZ])), (krZ, .inr (1, [.ref kaZ, .int (nI nZ)])), (kaZ, .inl (I, NZ, .inl fZ)), (vrZ, .inr (1, [.ref vaZ, .int (nI nZ)])), (vaZ, .inl (I, NZ, .inl gZ))] sz (fun (u : Unit) => True) (fun (u : Unit) => [(PZ, .inr (0, [.ref krZ, .ref vrZ])), (krZ, .inr (1, [.ref kaZ, .int (nI (nZ + 1))])), (kaZ, .inl (I, NZ, .inl (upd fZ nZ kZ))), (vrZ, .inr (1, [.ref vaZ, .int (nI (nZ + 1))])), (vaZ, .inl (I, NZ, .inl (upd gZ nZ vZ)))]) := by
  refine m_ofv (cc := cX0_append) (maxL := 3) (ret := none) (by decide) rfl (Nat.le_of_ble_eq_true rfl) ?_
  intro p e s m args below meth c A ls hx hb hr hlocks hml hts hown hin hK hP hD hA hS hl
  have hl : lv_has ls 3 [(0, .ref PZ), (1, .int kZ), (2, .int vZ)] := hl
  have hP : va_P D vwCl [(PZ, .inr (0, [.ref krZ, .ref vrZ])), (krZ, .inr (1, [.ref kaZ, .int (nI nZ)])), (kaZ, .inl (I, NZ, .inl fZ)), (vrZ, .inr (1, [.ref vaZ, .int (nI nZ)])), (vaZ, .inl (I, NZ, .inl gZ))] s.heap := hP
  have hD : va_D A [(PZ, .inr (0, [.ref krZ, .ref vrZ])), (krZ, .inr (1, [.ref kaZ, .int (nI nZ)])), (kaZ, .inl (I, NZ, .inl fZ)), (vrZ, .inr (1, [.ref vaZ, .int (nI nZ)])), (vaZ, .inl (I, NZ, .inl gZ))] := hD
  refine lv_aload_n hx hb dX0_append_0 rfl (lv_at hl 0 rfl) ?_
  refine va_get (D := D) (ci := 0) (v := .ref krZ) (C := RX0) (T := TX0) (N := 2) hx hb hts (fun _ h => List.mem_cons_of_mem _ (List.mem_append_left _ (List.mem_append_right _ h))) hown hK hP 0 rfl rfl 0 (by decide) (hts (.fieldLink RX0 14 "MapsByUse$Pairs" "keys" "LMapsByUse$Row;") (List.mem_of_getElem? (i := 1) (by decide +kernel))) (fun _ h9 => h9) rfl dX0_append_1 ?_
  refine lv_iload_n hx hb dX0_append_4 rfl (lv_at hl 1 rfl) ?_
  refine m_Vv (As := [.int kZ]) (wr := [(PZ, .inr (0, [.ref krZ, .ref vrZ])), (vrZ, .inr (1, [.ref vaZ, .int (nI nZ)])), (vaZ, .inl (I, NZ, .inl gZ))]) (ws2 := fun _ => [(PZ, .inr (0, [.ref krZ, .ref vrZ])), (krZ, .inr (1, [.ref kaZ, .int (nI (nZ + 1))])), (kaZ, .inl (I, NZ, .inl (upd fZ nZ kZ))), (vrZ, .inr (1, [.ref vaZ, .int (nI nZ)])), (vaZ, .inl (I, NZ, .inl gZ))]) ⟨hx, hb, hml, hown, hts⟩ hA hK hP hD hS hl.1 (c_X1_append l D I J s.heap.size krZ kaZ nZ NZ fZ kZ (by assumption) (by omega)) (cwV 1 hts gX0_append_X1_append rfl rfl rfl (by decide +kernel) ⟨Nat.le_of_ble_eq_true rfl, Nat.le_of_ble_eq_true rfl⟩) [1, 2] [0, 3, 4] [0, 3, 4, 1, 2] 1 1 rfl rfl rfl rfl rfl (by decide) (by decide) (by decide) (by decide) (fun _ => rfl) rfl rfl (Nat.le_of_ble_eq_true rfl) dX0_append_5 ⟨(by exact Nat.le_of_ble_eq_true rfl), (by exact Nat.le_of_ble_eq_true rfl)⟩ (fun u_5 H locs hw_5 hP hD hS => ?_)
  clear hw_5
  have hP : va_P D vwCl [(PZ, .inr (0, [.ref krZ, .ref vrZ])), (krZ, .inr (1, [.ref kaZ, .int (nI (nZ + 1))])), (kaZ, .inl (I, NZ, .inl (upd fZ nZ kZ))), (vrZ, .inr (1, [.ref vaZ, .int (nI nZ)])), (vaZ, .inl (I, NZ, .inl gZ))] H := hP
  have hD : va_D A [(PZ, .inr (0, [.ref krZ, .ref vrZ])), (krZ, .inr (1, [.ref kaZ, .int (nI (nZ + 1))])), (kaZ, .inl (I, NZ, .inl (upd fZ nZ kZ))), (vrZ, .inr (1, [.ref vaZ, .int (nI nZ)])), (vaZ, .inl (I, NZ, .inl gZ))] := hD
  refine lv_aload_n hx hb dX0_append_8 rfl (lv_at hl 0 rfl) ?_
  refine va_get (D := D) (ci := 0) (v := .ref vrZ) (C := RX0) (T := TX0) (N := 2) hx hb hts (fun _ h => List.mem_cons_of_mem _ (List.mem_append_left _ (List.mem_append_right _ h))) hown hK hP 0 rfl rfl 1 (by decide) (hts (.fieldLink RX0 20 "MapsByUse$Pairs" "values" "LMapsByUse$Row;") (List.mem_of_getElem? (i := 2) (by decide +kernel))) (fun _ h9 => h9) rfl dX0_append_9 ?_
  refine lv_iload_n hx hb dX0_append_12 rfl (lv_at hl 2 rfl) ?_
  refine m_Vv (As := [.int vZ]) (wr := [(PZ, .inr (0, [.ref krZ, .ref vrZ])), (krZ, .inr (1, [.ref kaZ, .int (nI (nZ + 1))])), (kaZ, .inl (I, NZ, .inl (upd fZ nZ kZ)))]) (ws2 := fun _ => [(PZ, .inr (0, [.ref krZ, .ref vrZ])), (krZ, .inr (1, [.ref kaZ, .int (nI (nZ + 1))])), (kaZ, .inl (I, NZ, .inl (upd fZ nZ kZ))), (vrZ, .inr (1, [.ref vaZ, .int (nI (nZ + 1))])), (vaZ, .inl (I, NZ, .inl (upd gZ nZ vZ)))]) ⟨hx, hb, hml, hown, hts⟩ hA hK hP hD hS hl.1 (c_X1_append l D I J H.size vrZ vaZ nZ NZ gZ vZ (by assumption) (by omega)) (cwV 1 hts gX0_append_X1_append rfl rfl rfl (by decide +kernel) ⟨Nat.le_of_ble_eq_true rfl, Nat.le_of_ble_eq_true rfl⟩) [3, 4] [0, 1, 2] [0, 1, 2, 3, 4] 3 1 rfl rfl rfl rfl rfl (by decide) (by decide) (by decide) (by decide) (fun _ => rfl) rfl rfl (Nat.le_of_ble_eq_true rfl) dX0_append_13 ⟨(by exact Nat.le_of_ble_eq_true rfl), (by exact Nat.le_of_ble_eq_true rfl)⟩ (fun u_13 H locs hw_13 hP hD hS => ?_)
  clear hw_13
  have hP : va_P D vwCl [(PZ, .inr (0, [.ref krZ, .ref vrZ])), (krZ, .inr (1, [.ref kaZ, .int (nI (nZ + 1))])), (kaZ, .inl (I, NZ, .inl (upd fZ nZ kZ))), (vrZ, .inr (1, [.ref vaZ, .int (nI (nZ + 1))])), (vaZ, .inl (I, NZ, .inl (upd gZ nZ vZ)))] H := hP
  have hD : va_D A [(PZ, .inr (0, [.ref krZ, .ref vrZ])), (krZ, .inr (1, [.ref kaZ, .int (nI (nZ + 1))])), (kaZ, .inl (I, NZ, .inl (upd fZ nZ kZ))), (vrZ, .inr (1, [.ref vaZ, .int (nI (nZ + 1))])), (vaZ, .inl (I, NZ, .inl (upd gZ nZ vZ)))] := hD
  refine m_vret () hx hb hr hlocks hP hD hS dX0_append_16 (by first | exact Nat.le_of_ble_eq_true rfl | omega) (by first | exact Nat.le_of_ble_eq_true rfl | omega) ?_
  trivial

set_option maxHeartbeats 4000000 in
set_option maxRecDepth 100000 in
theorem c_X0_setOrAppend (l : Launch) (D : va_G) (I J : ClassId) (sz : Nat) (PZ : Nat) (krZ : Nat) (kaZ : Nat) (vrZ : Nat) (vaZ : Nat) (nZ : Nat) (NZ : Nat) (fZ : Nat → Int32) (gZ : Nat → Int32) (kZ : Int32) (vZ : Int32) (hn : nZ ≤ NZ) (hN : NZ ≤ 1000) (hlt : rF fZ kZ nZ = none → nZ < NZ) : mCv l yX0_setOrAppend wsX0_setOrAppend 2 43 0 0 D I J [.ref PZ, .int kZ, .int vZ] [(PZ, .inr (0, [.ref krZ, .ref vrZ])), (krZ, .inr (1, [.ref kaZ, .int (nI nZ)])), (kaZ, .inl (I, NZ, .inl fZ)), (vrZ, .inr (1, [.ref vaZ, .int (nI nZ)])), (vaZ, .inl (I, NZ, .inl gZ))] sz (fun (u : Unit) => True) (fun (u : Unit) => [(PZ, .inr (0, [.ref krZ, .ref vrZ])), (krZ, .inr (1, [.ref kaZ, .int (nI (insN nZ (rF fZ kZ nZ)))])), (kaZ, .inl (I, NZ, .inl (insF fZ nZ kZ (rF fZ kZ nZ)))), (vrZ, .inr (1, [.ref vaZ, .int (nI (insN nZ (rF fZ kZ nZ)))])), (vaZ, .inl (I, NZ, .inl (insG gZ nZ vZ (rF fZ kZ nZ))))]) := by
  refine m_ofv (cc := cX0_setOrAppend) (maxL := 4) (ret := none) (by decide) rfl (Nat.le_of_ble_eq_true rfl) ?_
  intro p e s m args below meth c A ls hx hb hr hlocks hml hts hown hin hK hP hD hA hS hl
  have hl : lv_has ls 4 [(0, .ref PZ), (1, .int kZ), (2, .int vZ)] := hl
  have hP : va_P D vwCl [(PZ, .inr (0, [.ref krZ, .ref vrZ])), (krZ, .inr (1, [.ref kaZ, .int (nI nZ)])), (kaZ, .inl (I, NZ, .inl fZ)), (vrZ, .inr (1, [.ref vaZ, .int (nI nZ)])), (vaZ, .inl (I, NZ, .inl gZ))] s.heap := hP
  have hD : va_D A [(PZ, .inr (0, [.ref krZ, .ref vrZ])), (krZ, .inr (1, [.ref kaZ, .int (nI nZ)])), (kaZ, .inl (I, NZ, .inl fZ)), (vrZ, .inr (1, [.ref vaZ, .int (nI nZ)])), (vaZ, .inl (I, NZ, .inl gZ))] := hD
  refine lv_aload_n hx hb dX0_setOrAppend_0 rfl (lv_at hl 0 rfl) ?_
  refine va_get (D := D) (ci := 0) (v := .ref krZ) (C := RX0) (T := TX0) (N := 2) hx hb hts (fun _ h => List.mem_cons_of_mem _ (List.mem_append_left _ (List.mem_append_right _ h))) hown hK hP 0 rfl rfl 0 (by decide) (hts (.fieldLink RX0 14 "MapsByUse$Pairs" "keys" "LMapsByUse$Row;") (List.mem_of_getElem? (i := 1) (by decide +kernel))) (fun _ h9 => h9) rfl dX0_setOrAppend_1 ?_
  refine lv_iload_n hx hb dX0_setOrAppend_4 rfl (lv_at hl 1 rfl) ?_
  refine m_Vi (As := [.int kZ]) (wr := [(PZ, .inr (0, [.ref krZ, .ref vrZ])), (vrZ, .inr (1, [.ref vaZ, .int (nI nZ)])), (vaZ, .inl (I, NZ, .inl gZ))]) (ws2 := fun _ => [(PZ, .inr (0, [.ref krZ, .ref vrZ])), (krZ, .inr (1, [.ref kaZ, .int (nI nZ)])), (kaZ, .inl (I, NZ, .inl fZ)), (vrZ, .inr (1, [.ref vaZ, .int (nI nZ)])), (vaZ, .inl (I, NZ, .inl gZ))]) ⟨hx, hb, hml, hown, hts⟩ hA hK hP hD hS hl.1 (c_X1_placeOf l D I J s.heap.size krZ kaZ nZ NZ fZ kZ (by omega) (by omega)) (cwV 1 hts gX0_setOrAppend_X1_placeOf rfl rfl rfl (by decide +kernel) ⟨Nat.le_of_ble_eq_true rfl, Nat.le_of_ble_eq_true rfl⟩) [1, 2] [0, 3, 4] [0, 3, 4, 1, 2] 1 1 rfl rfl rfl rfl rfl (by decide) (by decide) (by decide) (by decide) (fun _ => rfl) rfl rfl (Nat.le_of_ble_eq_true rfl) dX0_setOrAppend_5 ⟨(by exact Nat.le_of_ble_eq_true rfl), (by exact Nat.le_of_ble_eq_true rfl)⟩ (fun r_5 u_5 H locs hw_5 hP hD hS => ?_)
  try dsimp only at hw_5
  have hP : va_P D vwCl [(PZ, .inr (0, [.ref krZ, .ref vrZ])), (krZ, .inr (1, [.ref kaZ, .int (nI nZ)])), (kaZ, .inl (I, NZ, .inl fZ)), (vrZ, .inr (1, [.ref vaZ, .int (nI nZ)])), (vaZ, .inl (I, NZ, .inl gZ))] H := hP
  have hD : va_D A [(PZ, .inr (0, [.ref krZ, .ref vrZ])), (krZ, .inr (1, [.ref kaZ, .int (nI nZ)])), (kaZ, .inl (I, NZ, .inl fZ)), (vrZ, .inr (1, [.ref vaZ, .int (nI nZ)])), (vaZ, .inl (I, NZ, .inl gZ))] := hD
  subst hw_5
  refine lv_istore_n (lv' := [(3, .int (iO (rF fZ kZ nZ))), (0, .ref PZ), (1, .int kZ), (2, .int vZ)]) hx hb dX0_setOrAppend_8 rfl hl (by decide) rfl (fun ls hl => ?_)
  refine lv_iload_n hx hb dX0_setOrAppend_9 rfl (lv_at hl 0 rfl) ?_
  refine lv_iconst (v := (-1)) hx hb dX0_setOrAppend_10 (by decide) ?_
  refine lv_icmp_ne (tgt := 23) hx hb dX0_setOrAppend_11 (by decide) (fun c_11 => ?_) (fun c_11 => ?_)
  · --11T
    obtain ⟨jZ, ho⟩ := iO_ne c_11
    refine lv_aload_n hx hb dX0_setOrAppend_23 rfl (lv_at hl 1 rfl) ?_
    refine va_get (D := D) (ci := 0) (v := .ref vrZ) (C := RX0) (T := TX0) (N := 2) hx hb hts (fun _ h => List.mem_cons_of_mem _ (List.mem_append_left _ (List.mem_append_right _ h))) hown hK hP 0 rfl rfl 1 (by decide) (hts (.fieldLink RX0 20 "MapsByUse$Pairs" "values" "LMapsByUse$Row;") (List.mem_of_getElem? (i := 2) (by decide +kernel))) (fun _ h9 => h9) rfl dX0_setOrAppend_24 ?_
    refine lv_iload_n hx hb dX0_setOrAppend_27 rfl (lv_at hl 0 rfl) ?_
    refine lv_iload_n hx hb dX0_setOrAppend_28 rfl (lv_at hl 3 rfl) ?_
    refine m_Vv (As := [.int (iO (rF fZ kZ nZ)), .int vZ]) (wr := [(PZ, .inr (0, [.ref krZ, .ref vrZ])), (krZ, .inr (1, [.ref kaZ, .int (nI nZ)])), (kaZ, .inl (I, NZ, .inl fZ))]) (ws2 := fun _ => [(PZ, .inr (0, [.ref krZ, .ref vrZ])), (krZ, .inr (1, [.ref kaZ, .int (nI nZ)])), (kaZ, .inl (I, NZ, .inl fZ)), (vrZ, .inr (1, [.ref vaZ, .int (nI nZ)])), (vaZ, .inl (I, NZ, .inl (setO gZ vZ (rF fZ kZ nZ))))]) ⟨hx, hb, hml, hown, hts⟩ hA hK hP hD hS hl.1 (c_X1_setAt l D I J H.size vrZ vaZ nZ NZ gZ (rF fZ kZ nZ) vZ (by exact rF_ho) (by omega) (by omega)) (cwV 2 hts gX0_setOrAppend_X1_setAt rfl rfl rfl (by decide +kernel) ⟨Nat.le_of_ble_eq_true rfl, Nat.le_of_ble_eq_true rfl⟩) [3, 4] [0, 1, 2] [0, 1, 2, 3, 4] 3 1 rfl rfl rfl rfl rfl (by decide) (by decide) (by decide) (by decide) (fun _ => rfl) rfl rfl (Nat.le_of_ble_eq_true rfl) dX0_setOrAppend_29 ⟨(by exact Nat.le_of_ble_eq_true rfl), (by exact Nat.le_of_ble_eq_true rfl)⟩ (fun u_29 H locs hw_29 hP hD hS => ?_)
    clear hw_29
    have hP : va_P D vwCl [(PZ, .inr (0, [.ref krZ, .ref vrZ])), (krZ, .inr (1, [.ref kaZ, .int (nI nZ)])), (kaZ, .inl (I, NZ, .inl fZ)), (vrZ, .inr (1, [.ref vaZ, .int (nI nZ)])), (vaZ, .inl (I, NZ, .inl (setO gZ vZ (rF fZ kZ nZ))))] H := hP
    have hD : va_D A [(PZ, .inr (0, [.ref krZ, .ref vrZ])), (krZ, .inr (1, [.ref kaZ, .int (nI nZ)])), (kaZ, .inl (I, NZ, .inl fZ)), (vrZ, .inr (1, [.ref vaZ, .int (nI nZ)])), (vaZ, .inl (I, NZ, .inl (setO gZ vZ (rF fZ kZ nZ))))] := hD
    have hEq : [(PZ, .inr (0, [.ref krZ, .ref vrZ])), (krZ, .inr (1, [.ref kaZ, .int (nI nZ)])), (kaZ, .inl (I, NZ, .inl fZ)), (vrZ, .inr (1, [.ref vaZ, .int (nI nZ)])), (vaZ, .inl (I, NZ, .inl (setO gZ vZ (rF fZ kZ nZ))))] = ([(PZ, .inr (0, [.ref krZ, .ref vrZ])), (krZ, .inr (1, [.ref kaZ, .int (nI (insN nZ (rF fZ kZ nZ)))])), (kaZ, .inl (I, NZ, .inl (insF fZ nZ kZ (rF fZ kZ nZ)))), (vrZ, .inr (1, [.ref vaZ, .int (nI (insN nZ (rF fZ kZ nZ)))])), (vaZ, .inl (I, NZ, .inl (insG gZ nZ vZ (rF fZ kZ nZ))))] : va_W) := (by rw [ho]; rfl)
    rw [hEq] at hP hD
    refine m_vret () hx hb hr hlocks hP hD hS dX0_setOrAppend_32 (by first | exact Nat.le_of_ble_eq_true rfl | omega) (by first | exact Nat.le_of_ble_eq_true rfl | omega) ?_
    trivial
  · --11F
    have ho : rF fZ kZ nZ = none := (iO_m1 (rF_lt (by omega))).mp c_11
    refine lv_aload_n hx hb dX0_setOrAppend_14 rfl (lv_at hl 1 rfl) ?_
    refine lv_iload_n hx hb dX0_setOrAppend_15 rfl (lv_at hl 2 rfl) ?_
    refine lv_iload_n hx hb dX0_setOrAppend_16 rfl (lv_at hl 3 rfl) ?_
    refine m_Vv (As := [.int kZ, .int vZ]) (wr := []) (ws2 := fun _ => [(PZ, .inr (0, [.ref krZ, .ref vrZ])), (krZ, .inr (1, [.ref kaZ, .int (nI (nZ + 1))])), (kaZ, .inl (I, NZ, .inl (upd fZ nZ kZ))), (vrZ, .inr (1, [.ref vaZ, .int (nI (nZ + 1))])), (vaZ, .inl (I, NZ, .inl (upd gZ nZ vZ)))]) ⟨hx, hb, hml, hown, hts⟩ hA hK hP hD hS hl.1 (c_X0_append l D I J H.size PZ krZ kaZ vrZ vaZ nZ NZ fZ gZ kZ vZ (by exact hlt ho) (by omega)) (cwV 2 hts gX0_setOrAppend_X0_append rfl rfl rfl (by decide +kernel) ⟨Nat.le_of_ble_eq_true rfl, Nat.le_of_ble_eq_true rfl⟩) [0, 1, 2, 3, 4] [] [0, 1, 2, 3, 4] 0 0 rfl rfl rfl rfl rfl (by decide) (by decide) (by decide) (by decide) (fun _ => rfl) rfl rfl (Nat.le_of_ble_eq_true rfl) dX0_setOrAppend_17 ⟨(by exact Nat.le_of_ble_eq_true rfl), (by exact Nat.le_of_ble_eq_true rfl)⟩ (fun u_17 H locs hw_17 hP hD hS => ?_)
    clear hw_17
    have hP : va_P D vwCl [(PZ, .inr (0, [.ref krZ, .ref vrZ])), (krZ, .inr (1, [.ref kaZ, .int (nI (nZ + 1))])), (kaZ, .inl (I, NZ, .inl (upd fZ nZ kZ))), (vrZ, .inr (1, [.ref vaZ, .int (nI (nZ + 1))])), (vaZ, .inl (I, NZ, .inl (upd gZ nZ vZ)))] H := hP
    have hD : va_D A [(PZ, .inr (0, [.ref krZ, .ref vrZ])), (krZ, .inr (1, [.ref kaZ, .int (nI (nZ + 1))])), (kaZ, .inl (I, NZ, .inl (upd fZ nZ kZ))), (vrZ, .inr (1, [.ref vaZ, .int (nI (nZ + 1))])), (vaZ, .inl (I, NZ, .inl (upd gZ nZ vZ)))] := hD
    refine lv_goto (tgt := 32) hx hb dX0_setOrAppend_20 (by decide) ?_
    have hEq : [(PZ, .inr (0, [.ref krZ, .ref vrZ])), (krZ, .inr (1, [.ref kaZ, .int (nI (nZ + 1))])), (kaZ, .inl (I, NZ, .inl (upd fZ nZ kZ))), (vrZ, .inr (1, [.ref vaZ, .int (nI (nZ + 1))])), (vaZ, .inl (I, NZ, .inl (upd gZ nZ vZ)))] = ([(PZ, .inr (0, [.ref krZ, .ref vrZ])), (krZ, .inr (1, [.ref kaZ, .int (nI (insN nZ (rF fZ kZ nZ)))])), (kaZ, .inl (I, NZ, .inl (insF fZ nZ kZ (rF fZ kZ nZ)))), (vrZ, .inr (1, [.ref vaZ, .int (nI (insN nZ (rF fZ kZ nZ)))])), (vaZ, .inl (I, NZ, .inl (insG gZ nZ vZ (rF fZ kZ nZ))))] : va_W) := (by rw [ho]; rfl)
    rw [hEq] at hP hD
    refine m_vret () hx hb hr hlocks hP hD hS dX0_setOrAppend_32 (by first | exact Nat.le_of_ble_eq_true rfl | omega) (by first | exact Nat.le_of_ble_eq_true rfl | omega) ?_
    trivial

set_option maxHeartbeats 4000000 in
set_option maxRecDepth 100000 in
theorem c_X0_cutOut (l : Launch) (D : va_G) (I J : ClassId) (sz : Nat) (PZ : Nat) (krZ : Nat) (kaZ : Nat) (vrZ : Nat) (vaZ : Nat) (nZ : Nat) (NZ : Nat) (fZ : Nat → Int32) (gZ : Nat → Int32) (oZ : Option Nat) (ho : ∀ jZ, oZ = some jZ → jZ < nZ) (hn : nZ ≤ NZ) (hN : NZ ≤ 1000) : mCv l yX0_cutOut wsX0_cutOut 2 42 0 0 D I J [.ref PZ, .int (iO oZ)] [(PZ, .inr (0, [.ref krZ, .ref vrZ])), (krZ, .inr (1, [.ref kaZ, .int (nI nZ)])), (kaZ, .inl (I, NZ, .inl fZ)), (vrZ, .inr (1, [.ref vaZ, .int (nI nZ)])), (vaZ, .inl (I, NZ, .inl gZ))] sz (fun (u : Unit) => True) (fun (u : Unit) => [(PZ, .inr (0, [.ref krZ, .ref vrZ])), (krZ, .inr (1, [.ref kaZ, .int (nI (delN nZ oZ))])), (kaZ, .inl (I, NZ, .inl (delF fZ nZ oZ))), (vrZ, .inr (1, [.ref vaZ, .int (nI (delN nZ oZ))])), (vaZ, .inl (I, NZ, .inl (delF gZ nZ oZ)))]) := by
  refine m_ofv (cc := cX0_cutOut) (maxL := 2) (ret := none) (by decide) rfl (Nat.le_of_ble_eq_true rfl) ?_
  intro p e s m args below meth c A ls hx hb hr hlocks hml hts hown hin hK hP hD hA hS hl
  have hl : lv_has ls 2 [(0, .ref PZ), (1, .int (iO oZ))] := hl
  have hP : va_P D vwCl [(PZ, .inr (0, [.ref krZ, .ref vrZ])), (krZ, .inr (1, [.ref kaZ, .int (nI nZ)])), (kaZ, .inl (I, NZ, .inl fZ)), (vrZ, .inr (1, [.ref vaZ, .int (nI nZ)])), (vaZ, .inl (I, NZ, .inl gZ))] s.heap := hP
  have hD : va_D A [(PZ, .inr (0, [.ref krZ, .ref vrZ])), (krZ, .inr (1, [.ref kaZ, .int (nI nZ)])), (kaZ, .inl (I, NZ, .inl fZ)), (vrZ, .inr (1, [.ref vaZ, .int (nI nZ)])), (vaZ, .inl (I, NZ, .inl gZ))] := hD
  refine lv_aload_n hx hb dX0_cutOut_0 rfl (lv_at hl 0 rfl) ?_
  refine va_get (D := D) (ci := 0) (v := .ref krZ) (C := RX0) (T := TX0) (N := 2) hx hb hts (fun _ h => List.mem_cons_of_mem _ (List.mem_append_left _ (List.mem_append_right _ h))) hown hK hP 0 rfl rfl 0 (by decide) (hts (.fieldLink RX0 14 "MapsByUse$Pairs" "keys" "LMapsByUse$Row;") (List.mem_of_getElem? (i := 1) (by decide +kernel))) (fun _ h9 => h9) rfl dX0_cutOut_1 ?_
  refine lv_iload_n hx hb dX0_cutOut_4 rfl (lv_at hl 1 rfl) ?_
  refine m_Vv (As := [.int (iO oZ)]) (wr := [(PZ, .inr (0, [.ref krZ, .ref vrZ])), (vrZ, .inr (1, [.ref vaZ, .int (nI nZ)])), (vaZ, .inl (I, NZ, .inl gZ))]) (ws2 := fun _ => [(PZ, .inr (0, [.ref krZ, .ref vrZ])), (krZ, .inr (1, [.ref kaZ, .int (nI (delN nZ oZ))])), (kaZ, .inl (I, NZ, .inl (delF fZ nZ oZ))), (vrZ, .inr (1, [.ref vaZ, .int (nI nZ)])), (vaZ, .inl (I, NZ, .inl gZ))]) ⟨hx, hb, hml, hown, hts⟩ hA hK hP hD hS hl.1 (c_X1_cutOut l D I J s.heap.size krZ kaZ nZ NZ fZ oZ (by assumption) (by omega) (by omega)) (cwV 1 hts gX0_cutOut_X1_cutOut rfl rfl rfl (by decide +kernel) ⟨Nat.le_of_ble_eq_true rfl, Nat.le_of_ble_eq_true rfl⟩) [1, 2] [0, 3, 4] [0, 3, 4, 1, 2] 1 1 rfl rfl rfl rfl rfl (by decide) (by decide) (by decide) (by decide) (fun _ => rfl) rfl rfl (Nat.le_of_ble_eq_true rfl) dX0_cutOut_5 ⟨(by exact Nat.le_of_ble_eq_true rfl), (by exact Nat.le_of_ble_eq_true rfl)⟩ (fun u_5 H locs hw_5 hP hD hS => ?_)
  clear hw_5
  have hP : va_P D vwCl [(PZ, .inr (0, [.ref krZ, .ref vrZ])), (krZ, .inr (1, [.ref kaZ, .int (nI (delN nZ oZ))])), (kaZ, .inl (I, NZ, .inl (delF fZ nZ oZ))), (vrZ, .inr (1, [.ref vaZ, .int (nI nZ)])), (vaZ, .inl (I, NZ, .inl gZ))] H := hP
  have hD : va_D A [(PZ, .inr (0, [.ref krZ, .ref vrZ])), (krZ, .inr (1, [.ref kaZ, .int (nI (delN nZ oZ))])), (kaZ, .inl (I, NZ, .inl (delF fZ nZ oZ))), (vrZ, .inr (1, [.ref vaZ, .int (nI nZ)])), (vaZ, .inl (I, NZ, .inl gZ))] := hD
  refine lv_aload_n hx hb dX0_cutOut_8 rfl (lv_at hl 0 rfl) ?_
  refine va_get (D := D) (ci := 0) (v := .ref vrZ) (C := RX0) (T := TX0) (N := 2) hx hb hts (fun _ h => List.mem_cons_of_mem _ (List.mem_append_left _ (List.mem_append_right _ h))) hown hK hP 0 rfl rfl 1 (by decide) (hts (.fieldLink RX0 20 "MapsByUse$Pairs" "values" "LMapsByUse$Row;") (List.mem_of_getElem? (i := 2) (by decide +kernel))) (fun _ h9 => h9) rfl dX0_cutOut_9 ?_
  refine lv_iload_n hx hb dX0_cutOut_12 rfl (lv_at hl 1 rfl) ?_
  refine m_Vv (As := [.int (iO oZ)]) (wr := [(PZ, .inr (0, [.ref krZ, .ref vrZ])), (krZ, .inr (1, [.ref kaZ, .int (nI (delN nZ oZ))])), (kaZ, .inl (I, NZ, .inl (delF fZ nZ oZ)))]) (ws2 := fun _ => [(PZ, .inr (0, [.ref krZ, .ref vrZ])), (krZ, .inr (1, [.ref kaZ, .int (nI (delN nZ oZ))])), (kaZ, .inl (I, NZ, .inl (delF fZ nZ oZ))), (vrZ, .inr (1, [.ref vaZ, .int (nI (delN nZ oZ))])), (vaZ, .inl (I, NZ, .inl (delF gZ nZ oZ)))]) ⟨hx, hb, hml, hown, hts⟩ hA hK hP hD hS hl.1 (c_X1_cutOut l D I J H.size vrZ vaZ nZ NZ gZ oZ (by assumption) (by omega) (by omega)) (cwV 1 hts gX0_cutOut_X1_cutOut rfl rfl rfl (by decide +kernel) ⟨Nat.le_of_ble_eq_true rfl, Nat.le_of_ble_eq_true rfl⟩) [3, 4] [0, 1, 2] [0, 1, 2, 3, 4] 3 1 rfl rfl rfl rfl rfl (by decide) (by decide) (by decide) (by decide) (fun _ => rfl) rfl rfl (Nat.le_of_ble_eq_true rfl) dX0_cutOut_13 ⟨(by exact Nat.le_of_ble_eq_true rfl), (by exact Nat.le_of_ble_eq_true rfl)⟩ (fun u_13 H locs hw_13 hP hD hS => ?_)
  clear hw_13
  have hP : va_P D vwCl [(PZ, .inr (0, [.ref krZ, .ref vrZ])), (krZ, .inr (1, [.ref kaZ, .int (nI (delN nZ oZ))])), (kaZ, .inl (I, NZ, .inl (delF fZ nZ oZ))), (vrZ, .inr (1, [.ref vaZ, .int (nI (delN nZ oZ))])), (vaZ, .inl (I, NZ, .inl (delF gZ nZ oZ)))] H := hP
  have hD : va_D A [(PZ, .inr (0, [.ref krZ, .ref vrZ])), (krZ, .inr (1, [.ref kaZ, .int (nI (delN nZ oZ))])), (kaZ, .inl (I, NZ, .inl (delF fZ nZ oZ))), (vrZ, .inr (1, [.ref vaZ, .int (nI (delN nZ oZ))])), (vaZ, .inl (I, NZ, .inl (delF gZ nZ oZ)))] := hD
  refine m_vret () hx hb hr hlocks hP hD hS dX0_cutOut_16 (by first | exact Nat.le_of_ble_eq_true rfl | omega) (by first | exact Nat.le_of_ble_eq_true rfl | omega) ?_
  trivial

set_option maxHeartbeats 4000000 in
set_option maxRecDepth 100000 in
theorem c_X0_empty (l : Launch) (D : va_G) (I J : ClassId) (sz : Nat) (PZ : Nat) (krZ : Nat) (kaZ : Nat) (vrZ : Nat) (vaZ : Nat) (nZ : Nat)  : mCv l yX0_empty wsX0_empty 1 20 0 0 D I J [.ref PZ] [(PZ, .inr (0, [.ref krZ, .ref vrZ])), (krZ, .inr (1, [.ref kaZ, .int (nI nZ)])), (vrZ, .inr (1, [.ref vaZ, .int (nI nZ)]))] sz (fun (u : Unit) => True) (fun (u : Unit) => [(PZ, .inr (0, [.ref krZ, .ref vrZ])), (krZ, .inr (1, [.ref kaZ, .int (nI 0)])), (vrZ, .inr (1, [.ref vaZ, .int (nI 0)]))]) := by
  refine m_ofv (cc := cX0_empty) (maxL := 1) (ret := none) (by decide) rfl (Nat.le_of_ble_eq_true rfl) ?_
  intro p e s m args below meth c A ls hx hb hr hlocks hml hts hown hin hK hP hD hA hS hl
  have hl : lv_has ls 1 [(0, .ref PZ)] := hl
  have hP : va_P D vwCl [(PZ, .inr (0, [.ref krZ, .ref vrZ])), (krZ, .inr (1, [.ref kaZ, .int (nI nZ)])), (vrZ, .inr (1, [.ref vaZ, .int (nI nZ)]))] s.heap := hP
  have hD : va_D A [(PZ, .inr (0, [.ref krZ, .ref vrZ])), (krZ, .inr (1, [.ref kaZ, .int (nI nZ)])), (vrZ, .inr (1, [.ref vaZ, .int (nI nZ)]))] := hD
  refine lv_aload_n hx hb dX0_empty_0 rfl (lv_at hl 0 rfl) ?_
  refine va_get (D := D) (ci := 0) (v := .ref krZ) (C := RX0) (T := TX0) (N := 2) hx hb hts (fun _ h => List.mem_cons_of_mem _ (List.mem_append_left _ (List.mem_append_right _ h))) hown hK hP 0 rfl rfl 0 (by decide) (hts (.fieldLink RX0 14 "MapsByUse$Pairs" "keys" "LMapsByUse$Row;") (List.mem_of_getElem? (i := 1) (by decide +kernel))) (fun _ h9 => h9) rfl dX0_empty_1 ?_
  refine m_Vv (As := []) (wr := [(PZ, .inr (0, [.ref krZ, .ref vrZ])), (vrZ, .inr (1, [.ref vaZ, .int (nI nZ)]))]) (ws2 := fun _ => [(PZ, .inr (0, [.ref krZ, .ref vrZ])), (krZ, .inr (1, [.ref kaZ, .int (nI 0)])), (vrZ, .inr (1, [.ref vaZ, .int (nI nZ)]))]) ⟨hx, hb, hml, hown, hts⟩ hA hK hP hD hS hl.1 (c_X1_empty l D I J s.heap.size krZ kaZ nZ ) (cwV 0 hts gX0_empty_X1_empty rfl rfl rfl (by decide +kernel) ⟨Nat.le_of_ble_eq_true rfl, Nat.le_of_ble_eq_true rfl⟩) [1] [0, 2] [0, 2, 1] 1 1 rfl rfl rfl rfl rfl (by decide) (by decide) (by decide) (by decide) (fun _ => rfl) rfl rfl (Nat.le_of_ble_eq_true rfl) dX0_empty_4 ⟨(by exact Nat.le_of_ble_eq_true rfl), (by exact Nat.le_of_ble_eq_true rfl)⟩ (fun u_4 H locs hw_4 hP hD hS => ?_)
  clear hw_4
  have hP : va_P D vwCl [(PZ, .inr (0, [.ref krZ, .ref vrZ])), (krZ, .inr (1, [.ref kaZ, .int (nI 0)])), (vrZ, .inr (1, [.ref vaZ, .int (nI nZ)]))] H := hP
  have hD : va_D A [(PZ, .inr (0, [.ref krZ, .ref vrZ])), (krZ, .inr (1, [.ref kaZ, .int (nI 0)])), (vrZ, .inr (1, [.ref vaZ, .int (nI nZ)]))] := hD
  refine lv_aload_n hx hb dX0_empty_7 rfl (lv_at hl 0 rfl) ?_
  refine va_get (D := D) (ci := 0) (v := .ref vrZ) (C := RX0) (T := TX0) (N := 2) hx hb hts (fun _ h => List.mem_cons_of_mem _ (List.mem_append_left _ (List.mem_append_right _ h))) hown hK hP 0 rfl rfl 1 (by decide) (hts (.fieldLink RX0 20 "MapsByUse$Pairs" "values" "LMapsByUse$Row;") (List.mem_of_getElem? (i := 2) (by decide +kernel))) (fun _ h9 => h9) rfl dX0_empty_8 ?_
  refine m_Vv (As := []) (wr := [(PZ, .inr (0, [.ref krZ, .ref vrZ])), (krZ, .inr (1, [.ref kaZ, .int (nI 0)]))]) (ws2 := fun _ => [(PZ, .inr (0, [.ref krZ, .ref vrZ])), (krZ, .inr (1, [.ref kaZ, .int (nI 0)])), (vrZ, .inr (1, [.ref vaZ, .int (nI 0)]))]) ⟨hx, hb, hml, hown, hts⟩ hA hK hP hD hS hl.1 (c_X1_empty l D I J H.size vrZ vaZ nZ ) (cwV 0 hts gX0_empty_X1_empty rfl rfl rfl (by decide +kernel) ⟨Nat.le_of_ble_eq_true rfl, Nat.le_of_ble_eq_true rfl⟩) [2] [0, 1] [0, 1, 2] 2 1 rfl rfl rfl rfl rfl (by decide) (by decide) (by decide) (by decide) (fun _ => rfl) rfl rfl (Nat.le_of_ble_eq_true rfl) dX0_empty_11 ⟨(by exact Nat.le_of_ble_eq_true rfl), (by exact Nat.le_of_ble_eq_true rfl)⟩ (fun u_11 H locs hw_11 hP hD hS => ?_)
  clear hw_11
  have hP : va_P D vwCl [(PZ, .inr (0, [.ref krZ, .ref vrZ])), (krZ, .inr (1, [.ref kaZ, .int (nI 0)])), (vrZ, .inr (1, [.ref vaZ, .int (nI 0)]))] H := hP
  have hD : va_D A [(PZ, .inr (0, [.ref krZ, .ref vrZ])), (krZ, .inr (1, [.ref kaZ, .int (nI 0)])), (vrZ, .inr (1, [.ref vaZ, .int (nI 0)]))] := hD
  refine m_vret () hx hb hr hlocks hP hD hS dX0_empty_14 (by first | exact Nat.le_of_ble_eq_true rfl | omega) (by first | exact Nat.le_of_ble_eq_true rfl | omega) ?_
  trivial

set_option maxHeartbeats 4000000 in
set_option maxRecDepth 100000 in
theorem c_X0_init (l : Launch) (D : va_G) (I J : ClassId) (sz : Nat) (PZ : Nat) (b0Z : Nat) (hbd : b0Z ≤ 1000) : mCv l yX0_init wsX0_init 2 35 4 (2 + b0Z + 2 + b0Z) D I J [.ref PZ, .int (nI b0Z)] [(PZ, .inr (0, [.null, .null]))] sz (fun (u : Nat × Nat × Nat × Nat) => True) (fun (u : Nat × Nat × Nat × Nat) => [(PZ, .inr (0, [.ref u.1, .ref u.2.2.1])), (u.1, .inr (1, [.ref u.2.1, .int (nI 0)])), (u.2.1, .inl (I, b0Z, .inl (fun _ => 0))), (u.2.2.1, .inr (1, [.ref u.2.2.2, .int (nI 0)])), (u.2.2.2, .inl (I, b0Z, .inl (fun _ => 0)))]) := by
  refine m_ofv (cc := cX0_init) (maxL := 2) (ret := none) (by decide) rfl (Nat.le_of_ble_eq_true rfl) ?_
  intro p e s m args below meth c A ls hx hb hr hlocks hml hts hown hin hK hP hD hA hS hl
  have hl : lv_has ls 2 [(0, .ref PZ), (1, .int (nI b0Z))] := hl
  have hP : va_P D vwCl [(PZ, .inr (0, [.null, .null]))] s.heap := hP
  have hD : va_D A [(PZ, .inr (0, [.null, .null]))] := hD
  refine lv_aload_n hx hb dX0_init_0 rfl (lv_at hl 0 rfl) ?_
  refine W.objInit hx hb hown (hts (.methodLink RX0 3 objectInit) (List.mem_of_getElem? (i := 1) (by decide +kernel))) (hts (.instanceMethod objectInit) (List.mem_of_getElem? (i := 2) (by decide +kernel))) (hts (.code objectInit ⟨#[0xb1]⟩ 1 none) (List.mem_of_getElem? (i := 3) (by decide +kernel))) rfl (by rw [hml]; exact hl.1) rfl dX0_init_1 (Nat.le_of_ble_eq_true rfl) (Nat.le_of_ble_eq_true rfl) ?_
  refine W.eq (g2 := F0 m 4 ls []) rfl ?_
  refine lv_aload_n hx hb dX0_init_4 rfl (lv_at hl 0 rfl) ?_
  refine va_new (ci := 1) (fs := [.null, .int 0]) (C := RX1) (T := TX1) (N := 2) hx hb hts (fun _ h => List.mem_cons_of_mem _ (List.mem_append_left _ (List.mem_append_right _ h))) tyX1 tyX1_ok hown (hts (.classLink RX0 9 RX1) (List.mem_of_getElem? (i := 4) (by decide +kernel))) (hts (.instantiable RX1 2) (List.mem_of_getElem? (i := 5) (by decide +kernel))) (hts (.initialized RX1) (List.mem_of_getElem? (i := 6) (by decide +kernel))) hK hP hD hS hA rfl (fun jZ hj => by rcases (show jZ = 0 ∨ jZ = 1 by omega) with rfl | rfl <;> rfl) (by show _ ≤ 4; omega) (by show _ ≤ 2 + b0Z + 2 + b0Z; omega) dX0_init_5 (fun q5 H hP hD hS => ?_)
  have hP : va_P D vwCl [(PZ, .inr (0, [.null, .null])), (q5, .inr (1, [.null, .int 0]))] H := hP
  have hD : va_D A [(PZ, .inr (0, [.null, .null])), (q5, .inr (1, [.null, .int 0]))] := hD
  refine lv_dup hx hb dX0_init_8 rfl ?_
  refine lv_iload_n hx hb dX0_init_9 rfl (lv_at hl 1 rfl) ?_
  refine m_Iv (As := [.int (nI b0Z)]) (wr := [(PZ, .inr (0, [.null, .null]))]) (ws2 := fun u => [(PZ, .inr (0, [.null, .null])), (q5, .inr (1, [.ref u, .int (nI 0)])), (u, .inl (I, b0Z, .inl (fun _ => 0)))]) ⟨hx, hb, hml, hown, hts⟩ hA hK hP hD hS hl.1 (c_X1_init l D I J H.size q5 b0Z (by assumption)) (cwI 1 hts gX0_init_X1_init rfl rfl rfl (hts (.initialized RX1) (List.mem_of_getElem? (i := 6) (by decide +kernel))) (hts (.methodLink RX0 11 yX1_init) (List.mem_of_getElem? (i := 9) (by decide +kernel))) (hts (.instanceMethod yX1_init) (List.mem_of_getElem? (i := 10) (by decide +kernel))) rfl (by decide +kernel) ⟨Nat.le_of_ble_eq_true rfl, Nat.le_of_ble_eq_true rfl⟩) [1] [0] [0, 1, 2] rfl rfl (by decide) (by decide) (by decide) (by decide) (fun _ => rfl) rfl rfl (Nat.le_of_ble_eq_true rfl) dX0_init_10 ⟨(by show _ ≤ 4; omega), (by show _ ≤ 2 + b0Z + 2 + b0Z; omega)⟩ (fun u_10 H locs hw_10 hP hD hS => ?_)
  obtain ⟨q_10, rfl⟩ : ∃ z, z = u_10 := ⟨_, rfl⟩
  clear hw_10
  have hP : va_P D vwCl [(PZ, .inr (0, [.null, .null])), (q5, .inr (1, [.ref q_10, .int (nI 0)])), (q_10, .inl (I, b0Z, .inl (fun _ => 0)))] H := hP
  have hD : va_D A [(PZ, .inr (0, [.null, .null])), (q5, .inr (1, [.ref q_10, .int (nI 0)])), (q_10, .inl (I, b0Z, .inl (fun _ => 0)))] := hD
  refine va_putF (D := D) (ci := 0) (v := .ref q5) (ty := (.object "MapsByUse$Row")) (C := RX0) (T := TX0) (N := 2) hx hb hts (fun _ h => List.mem_cons_of_mem _ (List.mem_append_right _ h)) tyX0 tyX0_ok nmX0 hown hK hP hD hS 0 rfl rfl 0 (by decide) (hts (.fieldLink RX0 14 "MapsByUse$Pairs" "keys" "LMapsByUse$Row;") (List.mem_of_getElem? (i := 7) (by decide +kernel))) (fun _ h9 => h9) rfl hin rfl (by decide +kernel) rfl rfl (Nat.le_of_ble_eq_true rfl) dX0_init_13 (fun H locs hP hD hS => ?_)
  have hP : va_P D vwCl [(PZ, .inr (0, [.ref q5, .null])), (q5, .inr (1, [.ref q_10, .int (nI 0)])), (q_10, .inl (I, b0Z, .inl (fun _ => 0)))] H := hP
  have hD : va_D A [(PZ, .inr (0, [.ref q5, .null])), (q5, .inr (1, [.ref q_10, .int (nI 0)])), (q_10, .inl (I, b0Z, .inl (fun _ => 0)))] := hD
  refine lv_aload_n hx hb dX0_init_16 rfl (lv_at hl 0 rfl) ?_
  refine va_new (ci := 1) (fs := [.null, .int 0]) (C := RX1) (T := TX1) (N := 2) hx hb hts (fun _ h => List.mem_cons_of_mem _ (List.mem_append_left _ (List.mem_append_right _ h))) tyX1 tyX1_ok hown (hts (.classLink RX0 9 RX1) (List.mem_of_getElem? (i := 4) (by decide +kernel))) (hts (.instantiable RX1 2) (List.mem_of_getElem? (i := 5) (by decide +kernel))) (hts (.initialized RX1) (List.mem_of_getElem? (i := 6) (by decide +kernel))) hK hP hD hS hA rfl (fun jZ hj => by rcases (show jZ = 0 ∨ jZ = 1 by omega) with rfl | rfl <;> rfl) (by show _ ≤ 4; omega) (by show _ ≤ 2 + b0Z + 2 + b0Z; omega) dX0_init_17 (fun q17 H hP hD hS => ?_)
  have hP : va_P D vwCl [(PZ, .inr (0, [.ref q5, .null])), (q5, .inr (1, [.ref q_10, .int (nI 0)])), (q_10, .inl (I, b0Z, .inl (fun _ => 0))), (q17, .inr (1, [.null, .int 0]))] H := hP
  have hD : va_D A [(PZ, .inr (0, [.ref q5, .null])), (q5, .inr (1, [.ref q_10, .int (nI 0)])), (q_10, .inl (I, b0Z, .inl (fun _ => 0))), (q17, .inr (1, [.null, .int 0]))] := hD
  refine lv_dup hx hb dX0_init_20 rfl ?_
  refine lv_iload_n hx hb dX0_init_21 rfl (lv_at hl 1 rfl) ?_
  refine m_Iv (As := [.int (nI b0Z)]) (wr := [(PZ, .inr (0, [.ref q5, .null])), (q5, .inr (1, [.ref q_10, .int (nI 0)])), (q_10, .inl (I, b0Z, .inl (fun _ => 0)))]) (ws2 := fun u => [(PZ, .inr (0, [.ref q5, .null])), (q5, .inr (1, [.ref q_10, .int (nI 0)])), (q_10, .inl (I, b0Z, .inl (fun _ => 0))), (q17, .inr (1, [.ref u, .int (nI 0)])), (u, .inl (I, b0Z, .inl (fun _ => 0)))]) ⟨hx, hb, hml, hown, hts⟩ hA hK hP hD hS hl.1 (c_X1_init l D I J H.size q17 b0Z (by assumption)) (cwI 1 hts gX0_init_X1_init rfl rfl rfl (hts (.initialized RX1) (List.mem_of_getElem? (i := 6) (by decide +kernel))) (hts (.methodLink RX0 11 yX1_init) (List.mem_of_getElem? (i := 9) (by decide +kernel))) (hts (.instanceMethod yX1_init) (List.mem_of_getElem? (i := 10) (by decide +kernel))) rfl (by decide +kernel) ⟨Nat.le_of_ble_eq_true rfl, Nat.le_of_ble_eq_true rfl⟩) [3] [0, 1, 2] [0, 1, 2, 3, 4] rfl rfl (by decide) (by decide) (by decide) (by decide) (fun _ => rfl) rfl rfl (Nat.le_of_ble_eq_true rfl) dX0_init_22 ⟨(by show _ ≤ 4; omega), (by show _ ≤ 2 + b0Z + 2 + b0Z; omega)⟩ (fun u_22 H locs hw_22 hP hD hS => ?_)
  obtain ⟨q_22, rfl⟩ : ∃ z, z = u_22 := ⟨_, rfl⟩
  clear hw_22
  have hP : va_P D vwCl [(PZ, .inr (0, [.ref q5, .null])), (q5, .inr (1, [.ref q_10, .int (nI 0)])), (q_10, .inl (I, b0Z, .inl (fun _ => 0))), (q17, .inr (1, [.ref q_22, .int (nI 0)])), (q_22, .inl (I, b0Z, .inl (fun _ => 0)))] H := hP
  have hD : va_D A [(PZ, .inr (0, [.ref q5, .null])), (q5, .inr (1, [.ref q_10, .int (nI 0)])), (q_10, .inl (I, b0Z, .inl (fun _ => 0))), (q17, .inr (1, [.ref q_22, .int (nI 0)])), (q_22, .inl (I, b0Z, .inl (fun _ => 0)))] := hD
  refine va_putF (D := D) (ci := 0) (v := .ref q17) (ty := (.object "MapsByUse$Row")) (C := RX0) (T := TX0) (N := 2) hx hb hts (fun _ h => List.mem_cons_of_mem _ (List.mem_append_right _ h)) tyX0 tyX0_ok nmX0 hown hK hP hD hS 0 rfl rfl 1 (by decide) (hts (.fieldLink RX0 20 "MapsByUse$Pairs" "values" "LMapsByUse$Row;") (List.mem_of_getElem? (i := 8) (by decide +kernel))) (fun _ h9 => h9) rfl hin rfl (by decide +kernel) rfl rfl (Nat.le_of_ble_eq_true rfl) dX0_init_25 (fun H locs hP hD hS => ?_)
  have hP : va_P D vwCl [(PZ, .inr (0, [.ref q5, .ref q17])), (q5, .inr (1, [.ref q_10, .int (nI 0)])), (q_10, .inl (I, b0Z, .inl (fun _ => 0))), (q17, .inr (1, [.ref q_22, .int (nI 0)])), (q_22, .inl (I, b0Z, .inl (fun _ => 0)))] H := hP
  have hD : va_D A [(PZ, .inr (0, [.ref q5, .ref q17])), (q5, .inr (1, [.ref q_10, .int (nI 0)])), (q_10, .inl (I, b0Z, .inl (fun _ => 0))), (q17, .inr (1, [.ref q_22, .int (nI 0)])), (q_22, .inl (I, b0Z, .inl (fun _ => 0)))] := hD
  refine m_vret (q5, q_10, q17, q_22) hx hb hr hlocks hP hD hS dX0_init_28 (by first | exact Nat.le_of_ble_eq_true rfl | omega) (by first | exact Nat.le_of_ble_eq_true rfl | omega) ?_
  trivial
