theorem LI_up {u v : Nat} {σ : LSt} (h : LI u σ) (q : u ≤ v) : LI v σ := ⟨h.1, h.2.1, h.2.2.1, ⟨h.2.2.2.1.1, h.2.2.2.1.2.1, h.2.2.2.1.2.2.1, h.2.2.2.1.2.2.2.1, Nat.le_trans h.2.2.2.1.2.2.2.2 q⟩, h.2.2.2.2⟩
set_option maxHeartbeats 4000000 in
set_option maxRecDepth 100000 in
theorem lw_loop {p : Program} {l : Launch} {e : Env} {s : State} {m : MethodId} {b : Nat} {below : List Frame} {meth : Method} {c : Code} {D : va_G} {I J : ClassId} {A : Nat → Prop} {L : Nat} {xs : Nat → Int32} (hr : meth.sig.returnType = ret) (hlocks : meth.locks = false) (hC : lwC p l s m b c D I J A L xs) (hAx : ∀ q : Nat, A q → s.heap.size ≤ q) (α : LAd) :
    ∀ (k i : Nat), L - i < k → i ≤ L → ∀ (σ : LSt), LI i σ → ∀ (H : Heap) (locs : List Loc) (ls : Array Slot), va_P D vwCl (lWd J I α σ) H → va_D A (lWd J I α σ) → va_S A s.heap H locs → lv_has ls 8 [(0, .ref b), (1, .ref α.1), (2, .ref α.2.2.2.2.2.2.2.2.2.2.2.2.2.2.2.2.2.2.2.2.1), (3, .ref α.2.2.2.2.2.2.2.2.2.2.2.2.2.2.2.2.2.2.2.2.2.2.2.2.2.2.2.2.2), (4, .int (nI i))] →
      W p l e room_1 s m #[Value.ref b] below meth c H locs (30 + i) (2413 + 6 * i) (lw_Z below #[Value.ref b] s) (F0 m 23 ls []) := by
  intro k
  induction k with
  | zero => intro i hm; exact absurd hm (Nat.not_lt_zero _)
  | succ k ih =>
    intro i hm hiL σ hI H locs ls hP hD hS hl
    obtain ⟨hx, hb, hml, hown, hts, hK, hA, hbA, hXs, hbl, hL2, hst, -⟩ := id hC
    refine lv_iload hx hb dL_law_23 (lv_at hl 4 rfl) ?_
    refine lv_aload_n hx hb dL_law_25 rfl (lv_at hl 0 rfl) ?_
    refine va_slen hx hb hXs hbl hbA hS dL_law_26 ?_
    refine lv_iconst (v := 4) hx hb dL_law_27 (by decide) ?_
    refine lv_isub hx hb dL_law_28 ?_
    refine lv_icmp_gt (tgt := 1923) hx hb dL_law_29 (by decide) (fun c_29 => ?_) (fun c_29 => ?_)
    · refine lv_iconst (v := 1) hx hb dL_law_1923 (by decide) ?_
      refine W.widen (k := 601024) (n := 7293034) (by omega) (by omega) ?_
      refine va_forget (fun q hq => hAx _ (hS.2.2 q hq)) ?_
      exact lw_ret hx hb hr hlocks dL_law_1924
    · have hi4 : i + 4 ≤ L := by
        rcases Nat.lt_or_ge L (i + 4) with q | q
        · exfalso
          apply c_29
          show nI L - nI 4 < nI i
          rw [Int32.lt_iff_toInt_lt, pk_sub_toInt (by omega) (by omega), nI_toInt (by omega)]
          omega
        · exact q
      refine lv_aload_n hx hb dL_law_32 rfl (lv_at hl 0 rfl) ?_
      refine lv_iload hx hb dL_law_33 (lv_at hl 4 rfl) ?_
      refine lw_sld (j := i) hx hb hXs hbl hbA hS (by omega) hL2 dL_law_35 ?_
      refine lv_bipush (v := 63) hx hb dL_law_36 (by decide) ?_
      refine lv_iand hx hb dL_law_38 ?_
      obtain ⟨j, hj, ej⟩ := pk_andE (xs i) (m := 63) 6 (by decide)
      refine m_topi (y := nI j) ej ?_
      have hKK : lwK p l e s m b below meth c D I J A α i (30 + i + 1) (2413 + 6 * i + 6) (lw_Z below #[Value.ref b] s) := by
        intro σ' hI' H locs ls hP hD hS hl
        refine lv_iinc (v := nI (i + 4)) (lv' := [(4, .int (nI (i + 4))), (0, .ref b), (1, .ref α.1), (2, .ref α.2.2.2.2.2.2.2.2.2.2.2.2.2.2.2.2.2.2.2.2.1), (3, .ref α.2.2.2.2.2.2.2.2.2.2.2.2.2.2.2.2.2.2.2.2.2.2.2.2.2.2.2.2.2)]) hx hb dL_law_1917 hl (k := 4) rfl (nI_add i 4) (by decide) rfl (fun ls hl => ?_)
        refine lv_goto (tgt := 23) hx hb dL_law_1920 (by decide) ?_
        refine W.widen (k := 30 + (i + 4)) (n := 2413 + 6 * (i + 4)) (by omega) (by omega) ?_
        exact ih (i + 4) (by omega) hi4 σ' (LI_up hI' (by omega)) H locs ls hP hD hS (lv_sub hl [1, 2, 3, 4, 0] rfl)
      by_cases h48 : j ≤ 48
      · obtain ⟨nZ, fZ, gZ, nwZ, fwZ, gwZ, nmZ, fmZ, nsZ, fsZ, gsZ, ugZ, rmZ, usZ, awZ, npZ, fpZ, gpZ, nvZ, fvZ, gvZ, nqZ, fqZ, nlZ, flZ, glZ, ulZ, rm2Z, us2Z, aw2Z, icZ, foZ⟩ := σ
        obtain ⟨xZ, tpZ, tkZ, tkaZ, tvZ, tvaZ, cpZ, ckZ, ckaZ, cvZ, cvaZ, mrZ, mraZ, spZ, skZ, skaZ, svZ, svaZ, urZ, uraZ, yZ, akZ, avZ, awkZ, aoZ, amZ, lkZ, lvZ, luZ, oaZ⟩ := α
        have hE := hI.2.2.2.2
        obtain ⟨e1, e2, e3⟩ := hE
        dsimp only at e1 e2 e3
        subst e1 e2 e3
        have hmc : 30 + i + 1 ≤ 601024 := by omega
        have hms : 2413 + 6 * i + 6 ≤ 7293034 := by omega
        rcases (show j = 0 ∨ j = 1 ∨ j = 2 ∨ j = 3 ∨ j = 4 ∨ j = 5 ∨ j = 6 ∨ j = 7 ∨ j = 8 ∨ j = 9 ∨ j = 10 ∨ j = 11 ∨ j = 12 ∨ j = 13 ∨ j = 14 ∨ j = 15 ∨ j = 16 ∨ j = 17 ∨ j = 18 ∨ j = 19 ∨ j = 20 ∨ j = 21 ∨ j = 22 ∨ j = 23 ∨ j = 24 ∨ j = 25 ∨ j = 26 ∨ j = 27 ∨ j = 28 ∨ j = 29 ∨ j = 30 ∨ j = 31 ∨ j = 32 ∨ j = 33 ∨ j = 34 ∨ j = 35 ∨ j = 36 ∨ j = 37 ∨ j = 38 ∨ j = 39 ∨ j = 40 ∨ j = 41 ∨ j = 42 ∨ j = 43 ∨ j = 44 ∨ j = 45 ∨ j = 46 ∨ j = 47 ∨ j = 48 by omega) with rfl | rfl | rfl | rfl | rfl | rfl | rfl | rfl | rfl | rfl | rfl | rfl | rfl | rfl | rfl | rfl | rfl | rfl | rfl | rfl | rfl | rfl | rfl | rfl | rfl | rfl | rfl | rfl | rfl | rfl | rfl | rfl | rfl | rfl | rfl | rfl | rfl | rfl | rfl | rfl | rfl | rfl | rfl | rfl | rfl | rfl | rfl | rfl | rfl
        · exact lv_tableIn (off := 209) (tgt := 248) hx hb dL_law_39 (by decide) (by decide) rfl (by decide) (kL_0 hC hi4 hmc hms hI hKK hP hD hS hl)
        · exact lv_tableIn (off := 276) (tgt := 315) hx hb dL_law_39 (by decide) (by decide) rfl (by decide) (kL_1 hC hi4 hmc hms hI hKK hP hD hS hl)
        · exact lv_tableIn (off := 343) (tgt := 382) hx hb dL_law_39 (by decide) (by decide) rfl (by decide) (kL_2 hC hi4 hmc hms hI hKK hP hD hS hl)
        · exact lv_tableIn (off := 369) (tgt := 408) hx hb dL_law_39 (by decide) (by decide) rfl (by decide) (kL_3 hC hi4 hmc hms hI hKK hP hD hS hl)
        · exact lv_tableIn (off := 406) (tgt := 445) hx hb dL_law_39 (by decide) (by decide) rfl (by decide) (kL_4 hC hi4 hmc hms hI hKK hP hD hS hl)
        · exact lv_tableIn (off := 444) (tgt := 483) hx hb dL_law_39 (by decide) (by decide) rfl (by decide) (kL_5 hC hi4 hmc hms hI hKK hP hD hS hl)
        · exact lv_tableIn (off := 493) (tgt := 532) hx hb dL_law_39 (by decide) (by decide) rfl (by decide) (kL_6 hC hi4 hmc hms hI hKK hP hD hS hl)
        · exact lv_tableIn (off := 519) (tgt := 558) hx hb dL_law_39 (by decide) (by decide) rfl (by decide) (kL_7 hC hi4 hmc hms hI hKK hP hD hS hl)
        · exact lv_tableIn (off := 556) (tgt := 595) hx hb dL_law_39 (by decide) (by decide) rfl (by decide) (kL_8 hC hi4 hmc hms hI hKK hP hD hS hl)
        · exact lv_tableIn (off := 581) (tgt := 620) hx hb dL_law_39 (by decide) (by decide) rfl (by decide) (kL_9 hC hi4 hmc hms hI hKK hP hD hS hl)
        · exact lv_tableIn (off := 606) (tgt := 645) hx hb dL_law_39 (by decide) (by decide) rfl (by decide) (kL_10 hC hi4 hmc hms hI hKK hP hD hS hl)
        · exact lv_tableIn (off := 673) (tgt := 712) hx hb dL_law_39 (by decide) (by decide) rfl (by decide) (kL_11 hC hi4 hmc hms hI hKK hP hD hS hl)
        · exact lv_tableIn (off := 728) (tgt := 767) hx hb dL_law_39 (by decide) (by decide) rfl (by decide) (kL_12 hC hi4 hmc hms hI hKK hP hD hS hl)
        · exact lv_tableIn (off := 766) (tgt := 805) hx hb dL_law_39 (by decide) (by decide) rfl (by decide) (kL_13 hC hi4 hmc hms hI hKK hP hD hS hl)
        · exact lv_tableIn (off := 846) (tgt := 885) hx hb dL_law_39 (by decide) (by decide) rfl (by decide) (kL_14 hC hi4 hmc hms hI hKK hP hD hS hl)
        · exact lv_tableIn (off := 871) (tgt := 910) hx hb dL_law_39 (by decide) (by decide) rfl (by decide) (kL_15 hC hi4 hmc hms hI hKK hP hD hS hl)
        · exact lv_tableIn (off := 896) (tgt := 935) hx hb dL_law_39 (by decide) (by decide) rfl (by decide) (kL_16 hC hi4 hmc hms hI hKK hP hD hS hl)
        · exact lv_tableIn (off := 940) (tgt := 979) hx hb dL_law_39 (by decide) (by decide) rfl (by decide) (kL_17 hC hi4 hmc hms hI hKK hP hD hS hl)
        · exact lv_tableIn (off := 953) (tgt := 992) hx hb dL_law_39 (by decide) (by decide) rfl (by decide) (kL_18 hC hi4 hmc hms hI hKK hP hD hS hl)
        · exact lv_tableIn (off := 966) (tgt := 1005) hx hb dL_law_39 (by decide) (by decide) rfl (by decide) (kL_19 hC hi4 hmc hms hI hKK hP hD hS hl)
        · exact lv_tableIn (off := 980) (tgt := 1019) hx hb dL_law_39 (by decide) (by decide) rfl (by decide) (kL_20 hC hi4 hmc hms hI hKK hP hD hS hl)
        · exact lv_tableIn (off := 994) (tgt := 1033) hx hb dL_law_39 (by decide) (by decide) rfl (by decide) (kL_21 hC hi4 hmc hms hI hKK hP hD hS hl)
        · exact lv_tableIn (off := 1008) (tgt := 1047) hx hb dL_law_39 (by decide) (by decide) rfl (by decide) (kL_22 hC hi4 hmc hms hI hKK hP hD hS hl)
        · exact lv_tableIn (off := 1064) (tgt := 1103) hx hb dL_law_39 (by decide) (by decide) rfl (by decide) (kL_23 hC hi4 hmc hms hI hKK hP hD hS hl)
        · exact lv_tableIn (off := 1120) (tgt := 1159) hx hb dL_law_39 (by decide) (by decide) rfl (by decide) (kL_24 hC hi4 hmc hms hI hKK hP hD hS hl)
        · exact lv_tableIn (off := 1176) (tgt := 1215) hx hb dL_law_39 (by decide) (by decide) rfl (by decide) (kL_25 hC hi4 hmc hms hI hKK hP hD hS hl)
        · exact lv_tableIn (off := 1189) (tgt := 1228) hx hb dL_law_39 (by decide) (by decide) rfl (by decide) (kL_26 hC hi4 hmc hms hI hKK hP hD hS hl)
        · exact lv_tableIn (off := 1233) (tgt := 1272) hx hb dL_law_39 (by decide) (by decide) rfl (by decide) (kL_27 hC hi4 hmc hms hI hKK hP hD hS hl)
        · exact lv_tableIn (off := 1296) (tgt := 1335) hx hb dL_law_39 (by decide) (by decide) rfl (by decide) (kL_28 hC hi4 hmc hms hI hKK hP hD hS hl)
        · exact lv_tableIn (off := 1321) (tgt := 1360) hx hb dL_law_39 (by decide) (by decide) rfl (by decide) (kL_29 hC hi4 hmc hms hI hKK hP hD hS hl)
        · exact lv_tableIn (off := 1346) (tgt := 1385) hx hb dL_law_39 (by decide) (by decide) rfl (by decide) (kL_30 hC hi4 hmc hms hI hKK hP hD hS hl)
        · exact lv_tableIn (off := 1359) (tgt := 1398) hx hb dL_law_39 (by decide) (by decide) rfl (by decide) (kL_31 hC hi4 hmc hms hI hKK hP hD hS hl)
        · exact lv_tableIn (off := 1403) (tgt := 1442) hx hb dL_law_39 (by decide) (by decide) rfl (by decide) (kL_32 hC hi4 hmc hms hI hKK hP hD hS hl)
        · exact lv_tableIn (off := 1416) (tgt := 1455) hx hb dL_law_39 (by decide) (by decide) rfl (by decide) (kL_33 hC hi4 hmc hms hI hKK hP hD hS hl)
        · exact lv_tableIn (off := 1429) (tgt := 1468) hx hb dL_law_39 (by decide) (by decide) rfl (by decide) (kL_34 hC hi4 hmc hms hI hKK hP hD hS hl)
        · exact lv_tableIn (off := 1485) (tgt := 1524) hx hb dL_law_39 (by decide) (by decide) rfl (by decide) (kL_35 hC hi4 hmc hms hI hKK hP hD hS hl)
        · exact lv_tableIn (off := 1523) (tgt := 1562) hx hb dL_law_39 (by decide) (by decide) rfl (by decide) (kL_36 hC hi4 hmc hms hI hKK hP hD hS hl)
        · exact lv_tableIn (off := 1561) (tgt := 1600) hx hb dL_law_39 (by decide) (by decide) rfl (by decide) (kL_37 hC hi4 hmc hms hI hKK hP hD hS hl)
        · exact lv_tableIn (off := 1587) (tgt := 1626) hx hb dL_law_39 (by decide) (by decide) rfl (by decide) (kL_38 hC hi4 hmc hms hI hKK hP hD hS hl)
        · exact lv_tableIn (off := 1624) (tgt := 1663) hx hb dL_law_39 (by decide) (by decide) rfl (by decide) (kL_39 hC hi4 hmc hms hI hKK hP hD hS hl)
        · exact lv_tableIn (off := 1649) (tgt := 1688) hx hb dL_law_39 (by decide) (by decide) rfl (by decide) (kL_40 hC hi4 hmc hms hI hKK hP hD hS hl)
        · exact lv_tableIn (off := 1675) (tgt := 1714) hx hb dL_law_39 (by decide) (by decide) rfl (by decide) (kL_41 hC hi4 hmc hms hI hKK hP hD hS hl)
        · exact lv_tableIn (off := 1731) (tgt := 1770) hx hb dL_law_39 (by decide) (by decide) rfl (by decide) (kL_42 hC hi4 hmc hms hI hKK hP hD hS hl)
        · exact lv_tableIn (off := 1787) (tgt := 1826) hx hb dL_law_39 (by decide) (by decide) rfl (by decide) (kL_43 hC hi4 hmc hms hI hKK hP hD hS hl)
        · exact lv_tableIn (off := 1812) (tgt := 1851) hx hb dL_law_39 (by decide) (by decide) rfl (by decide) (kL_44 hC hi4 hmc hms hI hKK hP hD hS hl)
        · exact lv_tableIn (off := 1825) (tgt := 1864) hx hb dL_law_39 (by decide) (by decide) rfl (by decide) (kL_45 hC hi4 hmc hms hI hKK hP hD hS hl)
        · exact lv_tableIn (off := 1838) (tgt := 1877) hx hb dL_law_39 (by decide) (by decide) rfl (by decide) (kL_46 hC hi4 hmc hms hI hKK hP hD hS hl)
        · exact lv_tableIn (off := 1851) (tgt := 1890) hx hb dL_law_39 (by decide) (by decide) rfl (by decide) (kL_47 hC hi4 hmc hms hI hKK hP hD hS hl)
        · exact lv_tableIn (off := 1865) (tgt := 1904) hx hb dL_law_39 (by decide) (by decide) rfl (by decide) (kL_48 hC hi4 hmc hms hI hKK hP hD hS hl)
      · refine lv_tableOut (tgt := 1917) hx hb dL_law_39 (Or.inr (by rw [nI_toInt (by omega)]; omega)) (by decide) ?_
        refine W.widen (k := 30 + i + 1) (n := 2413 + 6 * i + 6) (by omega) (by omega) ?_
        exact hKK σ (LI_up hI (Nat.le_succ i)) H locs ls hP hD hS hl
