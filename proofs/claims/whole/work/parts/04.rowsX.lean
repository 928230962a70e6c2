set_option maxRecDepth 20000 in
theorem ggX0_init_X1_init : GoodIn wsX0_init wsX1_init := goodIn_r _ [11, 12, 2, 3, 13, 14, 15, 16, 17, 18, 19, 20, 21] (by decide +kernel) (by decide +kernel)
set_option maxRecDepth 20000 in
theorem gX0_init_X1_init : GoodIn wsX0_init (wsX1_init) := ggX0_init_X1_init
theorem dX0_init_0 : decode cX0_init 0 = .ok (.aload_n 0, 1) := by decide +kernel
theorem dX0_init_1 : decode cX0_init 1 = .ok (.invokespecial 3, 3) := by decide +kernel
theorem dX0_init_4 : decode cX0_init 4 = .ok (.aload_n 0, 1) := by decide +kernel
theorem dX0_init_5 : decode cX0_init 5 = .ok (.new 9, 3) := by decide +kernel
theorem dX0_init_8 : decode cX0_init 8 = .ok (.dup, 1) := by decide +kernel
theorem dX0_init_9 : decode cX0_init 9 = .ok (.iload_n 1, 1) := by decide +kernel
theorem dX0_init_10 : decode cX0_init 10 = .ok (.invokespecial 11, 3) := by decide +kernel
theorem dX0_init_13 : decode cX0_init 13 = .ok (.putfield 14, 3) := by decide +kernel
theorem dX0_init_16 : decode cX0_init 16 = .ok (.aload_n 0, 1) := by decide +kernel
theorem dX0_init_17 : decode cX0_init 17 = .ok (.new 9, 3) := by decide +kernel
theorem dX0_init_20 : decode cX0_init 20 = .ok (.dup, 1) := by decide +kernel
theorem dX0_init_21 : decode cX0_init 21 = .ok (.iload_n 1, 1) := by decide +kernel
theorem dX0_init_22 : decode cX0_init 22 = .ok (.invokespecial 11, 3) := by decide +kernel
theorem dX0_init_25 : decode cX0_init 25 = .ok (.putfield 20, 3) := by decide +kernel
theorem dX0_init_28 : decode cX0_init 28 = .ok (.return_, 1) := by decide +kernel
set_option maxRecDepth 20000 in
theorem ggX0_held_X1_held : GoodIn wsX0_held wsX1_held := goodIn_r _ [6, 7, 10, 11] (by decide +kernel) (by decide +kernel)
set_option maxRecDepth 20000 in
theorem gX0_held_X1_held : GoodIn wsX0_held (wsV RX0 23 RX1 yX1_held wsX1_held) := goodIn_app (goodIn_of _ (by decide +kernel)) ggX0_held_X1_held
theorem dX0_held_0 : decode cX0_held 0 = .ok (.aload_n 0, 1) := by decide +kernel
theorem dX0_held_1 : decode cX0_held 1 = .ok (.getfield 14, 3) := by decide +kernel
theorem dX0_held_4 : decode cX0_held 4 = .ok (.invokevirtual 23, 3) := by decide +kernel
theorem dX0_held_7 : decode cX0_held 7 = .ok (.ireturn, 1) := by decide +kernel
set_option maxRecDepth 20000 in
theorem ggX0_placeOf_X1_placeOf : GoodIn wsX0_placeOf wsX1_placeOf := goodIn_r _ [6, 7, 8, 11, 12] (by decide +kernel) (by decide +kernel)
set_option maxRecDepth 20000 in
theorem gX0_placeOf_X1_placeOf : GoodIn wsX0_placeOf (wsV RX0 27 RX1 yX1_placeOf wsX1_placeOf) := goodIn_app (goodIn_of _ (by decide +kernel)) ggX0_placeOf_X1_placeOf
theorem dX0_placeOf_0 : decode cX0_placeOf 0 = .ok (.aload_n 0, 1) := by decide +kernel
theorem dX0_placeOf_1 : decode cX0_placeOf 1 = .ok (.getfield 14, 3) := by decide +kernel
theorem dX0_placeOf_4 : decode cX0_placeOf 4 = .ok (.iload_n 1, 1) := by decide +kernel
theorem dX0_placeOf_5 : decode cX0_placeOf 5 = .ok (.invokevirtual 27, 3) := by decide +kernel
theorem dX0_placeOf_8 : decode cX0_placeOf 8 = .ok (.ireturn, 1) := by decide +kernel
set_option maxRecDepth 20000 in
theorem ggX0_hasKey_X1_has : GoodIn wsX0_hasKey wsX1_has := goodIn_r _ [6, 7, 8, 9, 5, 10, 11, 12, 15, 16] (by decide +kernel) (by decide +kernel)
set_option maxRecDepth 20000 in
theorem gX0_hasKey_X1_has : GoodIn wsX0_hasKey (wsV RX0 31 RX1 yX1_has wsX1_has) := goodIn_app (goodIn_of _ (by decide +kernel)) ggX0_hasKey_X1_has
theorem dX0_hasKey_0 : decode cX0_hasKey 0 = .ok (.aload_n 0, 1) := by decide +kernel
theorem dX0_hasKey_1 : decode cX0_hasKey 1 = .ok (.getfield 14, 3) := by decide +kernel
theorem dX0_hasKey_4 : decode cX0_hasKey 4 = .ok (.iload_n 1, 1) := by decide +kernel
theorem dX0_hasKey_5 : decode cX0_hasKey 5 = .ok (.invokevirtual 31, 3) := by decide +kernel
theorem dX0_hasKey_8 : decode cX0_hasKey 8 = .ok (.ireturn, 1) := by decide +kernel
set_option maxRecDepth 20000 in
theorem ggX0_hasValue_X1_has : GoodIn wsX0_hasValue wsX1_has := goodIn_r _ [6, 7, 8, 9, 5, 10, 11, 12, 15, 16] (by decide +kernel) (by decide +kernel)
set_option maxRecDepth 20000 in
theorem gX0_hasValue_X1_has : GoodIn wsX0_hasValue (wsV RX0 31 RX1 yX1_has wsX1_has) := goodIn_app (goodIn_of _ (by decide +kernel)) ggX0_hasValue_X1_has
theorem dX0_hasValue_0 : decode cX0_hasValue 0 = .ok (.aload_n 0, 1) := by decide +kernel
theorem dX0_hasValue_1 : decode cX0_hasValue 1 = .ok (.getfield 20, 3) := by decide +kernel
theorem dX0_hasValue_4 : decode cX0_hasValue 4 = .ok (.iload_n 1, 1) := by decide +kernel
theorem dX0_hasValue_5 : decode cX0_hasValue 5 = .ok (.invokevirtual 31, 3) := by decide +kernel
theorem dX0_hasValue_8 : decode cX0_hasValue 8 = .ok (.ireturn, 1) := by decide +kernel
set_option maxRecDepth 20000 in
theorem ggX0_keyIn_X1_at : GoodIn wsX0_keyIn wsX1_at := goodIn_r _ [6, 7, 8, 9, 10, 5, 11, 12, 15, 16] (by decide +kernel) (by decide +kernel)
set_option maxRecDepth 20000 in
theorem gX0_keyIn_X1_at : GoodIn wsX0_keyIn (wsV RX0 35 RX1 yX1_at wsX1_at) := goodIn_app (goodIn_of _ (by decide +kernel)) ggX0_keyIn_X1_at
theorem dX0_keyIn_0 : decode cX0_keyIn 0 = .ok (.aload_n 0, 1) := by decide +kernel
theorem dX0_keyIn_1 : decode cX0_keyIn 1 = .ok (.getfield 14, 3) := by decide +kernel
theorem dX0_keyIn_4 : decode cX0_keyIn 4 = .ok (.iload_n 1, 1) := by decide +kernel
theorem dX0_keyIn_5 : decode cX0_keyIn 5 = .ok (.invokevirtual 35, 3) := by decide +kernel
theorem dX0_keyIn_8 : decode cX0_keyIn 8 = .ok (.ireturn, 1) := by decide +kernel
set_option maxRecDepth 20000 in
theorem ggX0_valueIn_X1_at : GoodIn wsX0_valueIn wsX1_at := goodIn_r _ [6, 7, 8, 9, 10, 5, 11, 12, 15, 16] (by decide +kernel) (by decide +kernel)
set_option maxRecDepth 20000 in
theorem gX0_valueIn_X1_at : GoodIn wsX0_valueIn (wsV RX0 35 RX1 yX1_at wsX1_at) := goodIn_app (goodIn_of _ (by decide +kernel)) ggX0_valueIn_X1_at
theorem dX0_valueIn_0 : decode cX0_valueIn 0 = .ok (.aload_n 0, 1) := by decide +kernel
theorem dX0_valueIn_1 : decode cX0_valueIn 1 = .ok (.getfield 20, 3) := by decide +kernel
theorem dX0_valueIn_4 : decode cX0_valueIn 4 = .ok (.iload_n 1, 1) := by decide +kernel
theorem dX0_valueIn_5 : decode cX0_valueIn 5 = .ok (.invokevirtual 35, 3) := by decide +kernel
theorem dX0_valueIn_8 : decode cX0_valueIn 8 = .ok (.ireturn, 1) := by decide +kernel
set_option maxRecDepth 20000 in
theorem ggX0_valueOr_X1_at : GoodIn wsX0_valueOr wsX1_at := goodIn_r _ [6, 7, 8, 9, 10, 5, 11, 12, 15, 16] (by decide +kernel) (by decide +kernel)
set_option maxRecDepth 20000 in
theorem gX0_valueOr_X1_at : GoodIn wsX0_valueOr (wsV RX0 35 RX1 yX1_at wsX1_at) := goodIn_app (goodIn_of _ (by decide +kernel)) ggX0_valueOr_X1_at
theorem dX0_valueOr_0 : decode cX0_valueOr 0 = .ok (.iload_n 1, 1) := by decide +kernel
theorem dX0_valueOr_1 : decode cX0_valueOr 1 = .ok (.iconst (-1), 1) := by decide +kernel
theorem dX0_valueOr_2 : decode cX0_valueOr 2 = .ok (.if_icmp .ne 7, 3) := by decide +kernel
theorem dX0_valueOr_5 : decode cX0_valueOr 5 = .ok (.iload_n 2, 1) := by decide +kernel
theorem dX0_valueOr_6 : decode cX0_valueOr 6 = .ok (.goto 11, 3) := by decide +kernel
theorem dX0_valueOr_9 : decode cX0_valueOr 9 = .ok (.aload_n 0, 1) := by decide +kernel
theorem dX0_valueOr_10 : decode cX0_valueOr 10 = .ok (.getfield 20, 3) := by decide +kernel
theorem dX0_valueOr_13 : decode cX0_valueOr 13 = .ok (.iload_n 1, 1) := by decide +kernel
theorem dX0_valueOr_14 : decode cX0_valueOr 14 = .ok (.invokevirtual 35, 3) := by decide +kernel
theorem dX0_valueOr_17 : decode cX0_valueOr 17 = .ok (.ireturn, 1) := by decide +kernel
set_option maxRecDepth 20000 in
theorem ggX0_valueOrNone_X1_at : GoodIn wsX0_valueOrNone wsX1_at := goodIn_r _ [7, 8, 9, 10, 11, 6, 12, 13, 16, 17] (by decide +kernel) (by decide +kernel)
set_option maxRecDepth 20000 in
theorem gX0_valueOrNone_X1_at : GoodIn wsX0_valueOrNone (wsV RX0 35 RX1 yX1_at wsX1_at) := goodIn_app (goodIn_of _ (by decide +kernel)) ggX0_valueOrNone_X1_at
theorem dX0_valueOrNone_0 : decode cX0_valueOrNone 0 = .ok (.iload_n 1, 1) := by decide +kernel
theorem dX0_valueOrNone_1 : decode cX0_valueOrNone 1 = .ok (.iconst (-1), 1) := by decide +kernel
theorem dX0_valueOrNone_2 : decode cX0_valueOrNone 2 = .ok (.if_icmp .ne 9, 3) := by decide +kernel
theorem dX0_valueOrNone_5 : decode cX0_valueOrNone 5 = .ok (.ldc2_w 38, 3) := by decide +kernel
theorem dX0_valueOrNone_8 : decode cX0_valueOrNone 8 = .ok (.goto 12, 3) := by decide +kernel
theorem dX0_valueOrNone_11 : decode cX0_valueOrNone 11 = .ok (.aload_n 0, 1) := by decide +kernel
theorem dX0_valueOrNone_12 : decode cX0_valueOrNone 12 = .ok (.getfield 20, 3) := by decide +kernel
theorem dX0_valueOrNone_15 : decode cX0_valueOrNone 15 = .ok (.iload_n 1, 1) := by decide +kernel
theorem dX0_valueOrNone_16 : decode cX0_valueOrNone 16 = .ok (.invokevirtual 35, 3) := by decide +kernel
theorem dX0_valueOrNone_19 : decode cX0_valueOrNone 19 = .ok (.i2l, 1) := by decide +kernel
theorem dX0_valueOrNone_20 : decode cX0_valueOrNone 20 = .ok (.lreturn, 1) := by decide +kernel
set_option maxRecDepth 20000 in
theorem ggX0_setValue_X1_setAt : GoodIn wsX0_setValue wsX1_setAt := goodIn_r _ [6, 7, 8, 9, 10, 5, 11, 12, 15, 16] (by decide +kernel) (by decide +kernel)
set_option maxRecDepth 20000 in
theorem gX0_setValue_X1_setAt : GoodIn wsX0_setValue (wsV RX0 40 RX1 yX1_setAt wsX1_setAt) := goodIn_app (goodIn_of _ (by decide +kernel)) ggX0_setValue_X1_setAt
theorem dX0_setValue_0 : decode cX0_setValue 0 = .ok (.aload_n 0, 1) := by decide +kernel
theorem dX0_setValue_1 : decode cX0_setValue 1 = .ok (.getfield 20, 3) := by decide +kernel
theorem dX0_setValue_4 : decode cX0_setValue 4 = .ok (.iload_n 1, 1) := by decide +kernel
theorem dX0_setValue_5 : decode cX0_setValue 5 = .ok (.iload_n 2, 1) := by decide +kernel
theorem dX0_setValue_6 : decode cX0_setValue 6 = .ok (.invokevirtual 40, 3) := by decide +kernel
theorem dX0_setValue_9 : decode cX0_setValue 9 = .ok (.return_, 1) := by decide +kernel
set_option maxRecDepth 20000 in
theorem ggX0_append_X1_append : GoodIn wsX0_append wsX1_append := goodIn_r _ [7, 8, 9, 12, 13] (by decide +kernel) (by decide +kernel)
set_option maxRecDepth 20000 in
theorem gX0_append_X1_append : GoodIn wsX0_append (wsV RX0 44 RX1 yX1_append wsX1_append) := goodIn_app (goodIn_of _ (by decide +kernel)) ggX0_append_X1_append
theorem dX0_append_0 : decode cX0_append 0 = .ok (.aload_n 0, 1) := by decide +kernel
theorem dX0_append_1 : decode cX0_append 1 = .ok (.getfield 14, 3) := by decide +kernel
theorem dX0_append_4 : decode cX0_append 4 = .ok (.iload_n 1, 1) := by decide +kernel
theorem dX0_append_5 : decode cX0_append 5 = .ok (.invokevirtual 44, 3) := by decide +kernel
theorem dX0_append_8 : decode cX0_append 8 = .ok (.aload_n 0, 1) := by decide +kernel
theorem dX0_append_9 : decode cX0_append 9 = .ok (.getfield 20, 3) := by decide +kernel
theorem dX0_append_12 : decode cX0_append 12 = .ok (.iload_n 2, 1) := by decide +kernel
theorem dX0_append_13 : decode cX0_append 13 = .ok (.invokevirtual 44, 3) := by decide +kernel
theorem dX0_append_16 : decode cX0_append 16 = .ok (.return_, 1) := by decide +kernel
set_option maxRecDepth 20000 in
theorem ggX0_setOrAppend_X1_placeOf : GoodIn wsX0_setOrAppend wsX1_placeOf := goodIn_r _ [7, 8, 9, 29, 30] (by decide +kernel) (by decide +kernel)
set_option maxRecDepth 20000 in
theorem gX0_setOrAppend_X1_placeOf : GoodIn wsX0_setOrAppend (wsV RX0 27 RX1 yX1_placeOf wsX1_placeOf) := goodIn_app (goodIn_of _ (by decide +kernel)) ggX0_setOrAppend_X1_placeOf
set_option maxRecDepth 20000 in
theorem ggX0_setOrAppend_X0_append : GoodIn wsX0_setOrAppend wsX0_append := goodIn_r _ [14, 1, 2, 15, 16, 17, 6, 18, 8, 9, 27, 28, 29, 30] (by decide +kernel) (by decide +kernel)
set_option maxRecDepth 20000 in
theorem gX0_setOrAppend_X0_append : GoodIn wsX0_setOrAppend (wsV RX0 47 RX0 yX0_append wsX0_append) := goodIn_app (goodIn_of _ (by decide +kernel)) ggX0_setOrAppend_X0_append
set_option maxRecDepth 20000 in
theorem ggX0_setOrAppend_X1_setAt : GoodIn wsX0_setOrAppend wsX1_setAt := goodIn_r _ [22, 9, 23, 24, 25, 6, 26, 8, 29, 30] (by decide +kernel) (by decide +kernel)
set_option maxRecDepth 20000 in
theorem gX0_setOrAppend_X1_setAt : GoodIn wsX0_setOrAppend (wsV RX0 40 RX1 yX1_setAt wsX1_setAt) := goodIn_app (goodIn_of _ (by decide +kernel)) ggX0_setOrAppend_X1_setAt
theorem dX0_setOrAppend_0 : decode cX0_setOrAppend 0 = .ok (.aload_n 0, 1) := by decide +kernel
theorem dX0_setOrAppend_1 : decode cX0_setOrAppend 1 = .ok (.getfield 14, 3) := by decide +kernel
theorem dX0_setOrAppend_4 : decode cX0_setOrAppend 4 = .ok (.iload_n 1, 1) := by decide +kernel
theorem dX0_setOrAppend_5 : decode cX0_setOrAppend 5 = .ok (.invokevirtual 27, 3) := by decide +kernel
theorem dX0_setOrAppend_8 : decode cX0_setOrAppend 8 = .ok (.istore_n 3, 1) := by decide +kernel
theorem dX0_setOrAppend_9 : decode cX0_setOrAppend 9 = .ok (.iload_n 3, 1) := by decide +kernel
theorem dX0_setOrAppend_10 : decode cX0_setOrAppend 10 = .ok (.iconst (-1), 1) := by decide +kernel
theorem dX0_setOrAppend_11 : decode cX0_setOrAppend 11 = .ok (.if_icmp .ne 12, 3) := by decide +kernel
theorem dX0_setOrAppend_14 : decode cX0_setOrAppend 14 = .ok (.aload_n 0, 1) := by decide +kernel
theorem dX0_setOrAppend_15 : decode cX0_setOrAppend 15 = .ok (.iload_n 1, 1) := by decide +kernel
theorem dX0_setOrAppend_16 : decode cX0_setOrAppend 16 = .ok (.iload_n 2, 1) := by decide +kernel
theorem dX0_setOrAppend_17 : decode cX0_setOrAppend 17 = .ok (.invokevirtual 47, 3) := by decide +kernel
theorem dX0_setOrAppend_20 : decode cX0_setOrAppend 20 = .ok (.goto 12, 3) := by decide +kernel
theorem dX0_setOrAppend_23 : decode cX0_setOrAppend 23 = .ok (.aload_n 0, 1) := by decide +kernel
theorem dX0_setOrAppend_24 : decode cX0_setOrAppend 24 = .ok (.getfield 20, 3) := by decide +kernel
theorem dX0_setOrAppend_27 : decode cX0_setOrAppend 27 = .ok (.iload_n 3, 1) := by decide +kernel
theorem dX0_setOrAppend_28 : decode cX0_setOrAppend 28 = .ok (.iload_n 2, 1) := by decide +kernel
theorem dX0_setOrAppend_29 : decode cX0_setOrAppend 29 = .ok (.invokevirtual 40, 3) := by decide +kernel
theorem dX0_setOrAppend_32 : decode cX0_setOrAppend 32 = .ok (.return_, 1) := by decide +kernel
set_option maxRecDepth 20000 in
theorem ggX0_cutOut_X1_cutOut : GoodIn wsX0_cutOut wsX1_cutOut := goodIn_r _ [7, 8, 9, 10, 11, 12, 13, 14, 15, 16, 6, 17, 20, 21] (by decide +kernel) (by decide +kernel)
set_option maxRecDepth 20000 in
theorem gX0_cutOut_X1_cutOut : GoodIn wsX0_cutOut (wsV RX0 49 RX1 yX1_cutOut wsX1_cutOut) := goodIn_app (goodIn_of _ (by decide +kernel)) ggX0_cutOut_X1_cutOut
theorem dX0_cutOut_0 : decode cX0_cutOut 0 = .ok (.aload_n 0, 1) := by decide +kernel
theorem dX0_cutOut_1 : decode cX0_cutOut 1 = .ok (.getfield 14, 3) := by decide +kernel
theorem dX0_cutOut_4 : decode cX0_cutOut 4 = .ok (.iload_n 1, 1) := by decide +kernel
theorem dX0_cutOut_5 : decode cX0_cutOut 5 = .ok (.invokevirtual 49, 3) := by decide +kernel
theorem dX0_cutOut_8 : decode cX0_cutOut 8 = .ok (.aload_n 0, 1) := by decide +kernel
theorem dX0_cutOut_9 : decode cX0_cutOut 9 = .ok (.getfield 20, 3) := by decide +kernel
theorem dX0_cutOut_12 : decode cX0_cutOut 12 = .ok (.iload_n 1, 1) := by decide +kernel
theorem dX0_cutOut_13 : decode cX0_cutOut 13 = .ok (.invokevirtual 49, 3) := by decide +kernel
theorem dX0_cutOut_16 : decode cX0_cutOut 16 = .ok (.return_, 1) := by decide +kernel
set_option maxRecDepth 20000 in
theorem ggX0_empty_X1_empty : GoodIn wsX0_empty wsX1_empty := goodIn_r _ [7, 8, 11, 12] (by decide +kernel) (by decide +kernel)
set_option maxRecDepth 20000 in
theorem gX0_empty_X1_empty : GoodIn wsX0_empty (wsV RX0 52 RX1 yX1_empty wsX1_empty) := goodIn_app (goodIn_of _ (by decide +kernel)) ggX0_empty_X1_empty
theorem dX0_empty_0 : decode cX0_empty 0 = .ok (.aload_n 0, 1) := by decide +kernel
theorem dX0_empty_1 : decode cX0_empty 1 = .ok (.getfield 14, 3) := by decide +kernel
theorem dX0_empty_4 : decode cX0_empty 4 = .ok (.invokevirtual 52, 3) := by decide +kernel
theorem dX0_empty_7 : decode cX0_empty 7 = .ok (.aload_n 0, 1) := by decide +kernel
theorem dX0_empty_8 : decode cX0_empty 8 = .ok (.getfield 20, 3) := by decide +kernel
theorem dX0_empty_11 : decode cX0_empty 11 = .ok (.invokevirtual 52, 3) := by decide +kernel
theorem dX0_empty_14 : decode cX0_empty 14 = .ok (.return_, 1) := by decide +kernel
theorem dX1_init_0 : decode cX1_init 0 = .ok (.aload_n 0, 1) := by decide +kernel
theorem dX1_init_1 : decode cX1_init 1 = .ok (.invokespecial 3, 3) := by decide +kernel
theorem dX1_init_4 : decode cX1_init 4 = .ok (.aload_n 0, 1) := by decide +kernel
theorem dX1_init_5 : decode cX1_init 5 = .ok (.iload_n 1, 1) := by decide +kernel
theorem dX1_init_6 : decode cX1_init 6 = .ok (.iconst 0, 1) := by decide +kernel
theorem dX1_init_7 : decode cX1_init 7 = .ok (.invokestatic 9, 3) := by decide +kernel
theorem dX1_init_10 : decode cX1_init 10 = .ok (.newarray .int, 2) := by decide +kernel
theorem dX1_init_12 : decode cX1_init 12 = .ok (.putfield 15, 3) := by decide +kernel
theorem dX1_init_15 : decode cX1_init 15 = .ok (.aload_n 0, 1) := by decide +kernel
theorem dX1_init_16 : decode cX1_init 16 = .ok (.iconst 0, 1) := by decide +kernel
theorem dX1_init_17 : decode cX1_init 17 = .ok (.putfield 21, 3) := by decide +kernel
theorem dX1_init_20 : decode cX1_init 20 = .ok (.return_, 1) := by decide +kernel
theorem dX1_held_0 : decode cX1_held 0 = .ok (.aload_n 0, 1) := by decide +kernel
theorem dX1_held_1 : decode cX1_held 1 = .ok (.getfield 21, 3) := by decide +kernel
theorem dX1_held_4 : decode cX1_held 4 = .ok (.ireturn, 1) := by decide +kernel
theorem dX1_placeOf_0 : decode cX1_placeOf 0 = .ok (.iconst 0, 1) := by decide +kernel
theorem dX1_placeOf_1 : decode cX1_placeOf 1 = .ok (.istore_n 2, 1) := by decide +kernel
theorem dX1_placeOf_2 : decode cX1_placeOf 2 = .ok (.iload_n 2, 1) := by decide +kernel
theorem dX1_placeOf_3 : decode cX1_placeOf 3 = .ok (.aload_n 0, 1) := by decide +kernel
theorem dX1_placeOf_4 : decode cX1_placeOf 4 = .ok (.getfield 21, 3) := by decide +kernel
theorem dX1_placeOf_7 : decode cX1_placeOf 7 = .ok (.if_icmp .ge 21, 3) := by decide +kernel
theorem dX1_placeOf_10 : decode cX1_placeOf 10 = .ok (.aload_n 0, 1) := by decide +kernel
theorem dX1_placeOf_11 : decode cX1_placeOf 11 = .ok (.getfield 15, 3) := by decide +kernel
theorem dX1_placeOf_14 : decode cX1_placeOf 14 = .ok (.iload_n 2, 1) := by decide +kernel
theorem dX1_placeOf_15 : decode cX1_placeOf 15 = .ok (.iaload, 1) := by decide +kernel
theorem dX1_placeOf_16 : decode cX1_placeOf 16 = .ok (.iload_n 1, 1) := by decide +kernel
theorem dX1_placeOf_17 : decode cX1_placeOf 17 = .ok (.if_icmp .ne 5, 3) := by decide +kernel
theorem dX1_placeOf_20 : decode cX1_placeOf 20 = .ok (.iload_n 2, 1) := by decide +kernel
theorem dX1_placeOf_21 : decode cX1_placeOf 21 = .ok (.ireturn, 1) := by decide +kernel
theorem dX1_placeOf_22 : decode cX1_placeOf 22 = .ok (.iinc 2 1, 3) := by decide +kernel
theorem dX1_placeOf_25 : decode cX1_placeOf 25 = .ok (.goto (-23), 3) := by decide +kernel
theorem dX1_placeOf_28 : decode cX1_placeOf 28 = .ok (.iconst (-1), 1) := by decide +kernel
theorem dX1_placeOf_29 : decode cX1_placeOf 29 = .ok (.ireturn, 1) := by decide +kernel
set_option maxRecDepth 20000 in
theorem ggX1_has_X1_placeOf : GoodIn wsX1_has wsX1_placeOf := goodIn_r _ [5, 6, 7, 8, 9] (by decide +kernel) (by decide +kernel)
set_option maxRecDepth 20000 in
theorem gX1_has_X1_placeOf : GoodIn wsX1_has (wsV RX1 25 RX1 yX1_placeOf wsX1_placeOf) := goodIn_app (goodIn_of _ (by decide +kernel)) ggX1_has_X1_placeOf
theorem dX1_has_0 : decode cX1_has 0 = .ok (.aload_n 0, 1) := by decide +kernel
theorem dX1_has_1 : decode cX1_has 1 = .ok (.iload_n 1, 1) := by decide +kernel
theorem dX1_has_2 : decode cX1_has 2 = .ok (.invokevirtual 25, 3) := by decide +kernel
theorem dX1_has_5 : decode cX1_has 5 = .ok (.iconst (-1), 1) := by decide +kernel
theorem dX1_has_6 : decode cX1_has 6 = .ok (.if_icmp .eq 7, 3) := by decide +kernel
theorem dX1_has_9 : decode cX1_has 9 = .ok (.iconst 1, 1) := by decide +kernel
theorem dX1_has_10 : decode cX1_has 10 = .ok (.goto 4, 3) := by decide +kernel
theorem dX1_has_13 : decode cX1_has 13 = .ok (.iconst 0, 1) := by decide +kernel
theorem dX1_has_14 : decode cX1_has 14 = .ok (.ireturn, 1) := by decide +kernel
set_option maxRecDepth 20000 in
theorem ggX1_at_X1_isPlace : GoodIn wsX1_at wsX1_isPlace := goodIn_r _ [6, 7, 8, 9] (by decide +kernel) (by decide +kernel)
set_option maxRecDepth 20000 in
theorem gX1_at_X1_isPlace : GoodIn wsX1_at (wsV RX1 29 RX1 yX1_isPlace wsX1_isPlace) := goodIn_app (goodIn_of _ (by decide +kernel)) ggX1_at_X1_isPlace
theorem dX1_at_0 : decode cX1_at 0 = .ok (.aload_n 0, 1) := by decide +kernel
theorem dX1_at_1 : decode cX1_at 1 = .ok (.iload_n 1, 1) := by decide +kernel
theorem dX1_at_2 : decode cX1_at 2 = .ok (.invokevirtual 29, 3) := by decide +kernel
theorem dX1_at_5 : decode cX1_at 5 = .ok (.ifCond .eq 12, 3) := by decide +kernel
theorem dX1_at_8 : decode cX1_at 8 = .ok (.aload_n 0, 1) := by decide +kernel
theorem dX1_at_9 : decode cX1_at 9 = .ok (.getfield 15, 3) := by decide +kernel
theorem dX1_at_12 : decode cX1_at 12 = .ok (.iload_n 1, 1) := by decide +kernel
theorem dX1_at_13 : decode cX1_at 13 = .ok (.iaload, 1) := by decide +kernel
theorem dX1_at_14 : decode cX1_at 14 = .ok (.goto 4, 3) := by decide +kernel
theorem dX1_at_17 : decode cX1_at 17 = .ok (.iconst 0, 1) := by decide +kernel
theorem dX1_at_18 : decode cX1_at 18 = .ok (.ireturn, 1) := by decide +kernel
set_option maxRecDepth 20000 in
theorem ggX1_setAt_X1_isPlace : GoodIn wsX1_setAt wsX1_isPlace := goodIn_r _ [6, 7, 8, 9] (by decide +kernel) (by decide +kernel)
set_option maxRecDepth 20000 in
theorem gX1_setAt_X1_isPlace : GoodIn wsX1_setAt (wsV RX1 29 RX1 yX1_isPlace wsX1_isPlace) := goodIn_app (goodIn_of _ (by decide +kernel)) ggX1_setAt_X1_isPlace
theorem dX1_setAt_0 : decode cX1_setAt 0 = .ok (.aload_n 0, 1) := by decide +kernel
theorem dX1_setAt_1 : decode cX1_setAt 1 = .ok (.iload_n 1, 1) := by decide +kernel
theorem dX1_setAt_2 : decode cX1_setAt 2 = .ok (.invokevirtual 29, 3) := by decide +kernel
theorem dX1_setAt_5 : decode cX1_setAt 5 = .ok (.ifCond .eq 10, 3) := by decide +kernel
theorem dX1_setAt_8 : decode cX1_setAt 8 = .ok (.aload_n 0, 1) := by decide +kernel
theorem dX1_setAt_9 : decode cX1_setAt 9 = .ok (.getfield 15, 3) := by decide +kernel
theorem dX1_setAt_12 : decode cX1_setAt 12 = .ok (.iload_n 1, 1) := by decide +kernel
theorem dX1_setAt_13 : decode cX1_setAt 13 = .ok (.iload_n 2, 1) := by decide +kernel
theorem dX1_setAt_14 : decode cX1_setAt 14 = .ok (.iastore, 1) := by decide +kernel
theorem dX1_setAt_15 : decode cX1_setAt 15 = .ok (.return_, 1) := by decide +kernel
theorem dX1_append_0 : decode cX1_append 0 = .ok (.aload_n 0, 1) := by decide +kernel
theorem dX1_append_1 : decode cX1_append 1 = .ok (.getfield 21, 3) := by decide +kernel
theorem dX1_append_4 : decode cX1_append 4 = .ok (.aload_n 0, 1) := by decide +kernel
theorem dX1_append_5 : decode cX1_append 5 = .ok (.getfield 15, 3) := by decide +kernel
theorem dX1_append_8 : decode cX1_append 8 = .ok (.arraylength, 1) := by decide +kernel
theorem dX1_append_9 : decode cX1_append 9 = .ok (.if_icmp .ge 23, 3) := by decide +kernel
theorem dX1_append_12 : decode cX1_append 12 = .ok (.aload_n 0, 1) := by decide +kernel
theorem dX1_append_13 : decode cX1_append 13 = .ok (.getfield 15, 3) := by decide +kernel
theorem dX1_append_16 : decode cX1_append 16 = .ok (.aload_n 0, 1) := by decide +kernel
theorem dX1_append_17 : decode cX1_append 17 = .ok (.getfield 21, 3) := by decide +kernel
theorem dX1_append_20 : decode cX1_append 20 = .ok (.iload_n 1, 1) := by decide +kernel
theorem dX1_append_21 : decode cX1_append 21 = .ok (.iastore, 1) := by decide +kernel
theorem dX1_append_22 : decode cX1_append 22 = .ok (.aload_n 0, 1) := by decide +kernel
theorem dX1_append_23 : decode cX1_append 23 = .ok (.dup, 1) := by decide +kernel
theorem dX1_append_24 : decode cX1_append 24 = .ok (.getfield 21, 3) := by decide +kernel
theorem dX1_append_27 : decode cX1_append 27 = .ok (.iconst 1, 1) := by decide +kernel
theorem dX1_append_28 : decode cX1_append 28 = .ok (.iadd, 1) := by decide +kernel
theorem dX1_append_29 : decode cX1_append 29 = .ok (.putfield 21, 3) := by decide +kernel
theorem dX1_append_32 : decode cX1_append 32 = .ok (.return_, 1) := by decide +kernel
set_option maxRecDepth 20000 in
theorem ggX1_cutOut_X1_isPlace : GoodIn wsX1_cutOut wsX1_isPlace := goodIn_r _ [11, 1, 12, 13] (by decide +kernel) (by decide +kernel)
set_option maxRecDepth 20000 in
theorem gX1_cutOut_X1_isPlace : GoodIn wsX1_cutOut (wsV RX1 29 RX1 yX1_isPlace wsX1_isPlace) := goodIn_app (goodIn_of _ (by decide +kernel)) ggX1_cutOut_X1_isPlace
theorem dX1_cutOut_0 : decode cX1_cutOut 0 = .ok (.aload_n 0, 1) := by decide +kernel
theorem dX1_cutOut_1 : decode cX1_cutOut 1 = .ok (.iload_n 1, 1) := by decide +kernel
theorem dX1_cutOut_2 : decode cX1_cutOut 2 = .ok (.invokevirtual 29, 3) := by decide +kernel
theorem dX1_cutOut_5 : decode cX1_cutOut 5 = .ok (.ifCond .eq 34, 3) := by decide +kernel
theorem dX1_cutOut_8 : decode cX1_cutOut 8 = .ok (.aload_n 0, 1) := by decide +kernel
theorem dX1_cutOut_9 : decode cX1_cutOut 9 = .ok (.dup, 1) := by decide +kernel
theorem dX1_cutOut_10 : decode cX1_cutOut 10 = .ok (.getfield 21, 3) := by decide +kernel
theorem dX1_cutOut_13 : decode cX1_cutOut 13 = .ok (.iconst 1, 1) := by decide +kernel
theorem dX1_cutOut_14 : decode cX1_cutOut 14 = .ok (.isub, 1) := by decide +kernel
theorem dX1_cutOut_15 : decode cX1_cutOut 15 = .ok (.putfield 21, 3) := by decide +kernel
theorem dX1_cutOut_18 : decode cX1_cutOut 18 = .ok (.aload_n 0, 1) := by decide +kernel
theorem dX1_cutOut_19 : decode cX1_cutOut 19 = .ok (.getfield 15, 3) := by decide +kernel
theorem dX1_cutOut_22 : decode cX1_cutOut 22 = .ok (.iload_n 1, 1) := by decide +kernel
theorem dX1_cutOut_23 : decode cX1_cutOut 23 = .ok (.iconst 1, 1) := by decide +kernel
theorem dX1_cutOut_24 : decode cX1_cutOut 24 = .ok (.iadd, 1) := by decide +kernel
theorem dX1_cutOut_25 : decode cX1_cutOut 25 = .ok (.aload_n 0, 1) := by decide +kernel
theorem dX1_cutOut_26 : decode cX1_cutOut 26 = .ok (.getfield 15, 3) := by decide +kernel
theorem dX1_cutOut_29 : decode cX1_cutOut 29 = .ok (.iload_n 1, 1) := by decide +kernel
theorem dX1_cutOut_30 : decode cX1_cutOut 30 = .ok (.aload_n 0, 1) := by decide +kernel
theorem dX1_cutOut_31 : decode cX1_cutOut 31 = .ok (.getfield 21, 3) := by decide +kernel
theorem dX1_cutOut_34 : decode cX1_cutOut 34 = .ok (.iload_n 1, 1) := by decide +kernel
theorem dX1_cutOut_35 : decode cX1_cutOut 35 = .ok (.isub, 1) := by decide +kernel
theorem dX1_cutOut_36 : decode cX1_cutOut 36 = .ok (.invokestatic 33, 3) := by decide +kernel
theorem dX1_cutOut_39 : decode cX1_cutOut 39 = .ok (.return_, 1) := by decide +kernel
theorem dX1_empty_0 : decode cX1_empty 0 = .ok (.aload_n 0, 1) := by decide +kernel
theorem dX1_empty_1 : decode cX1_empty 1 = .ok (.iconst 0, 1) := by decide +kernel
theorem dX1_empty_2 : decode cX1_empty 2 = .ok (.putfield 21, 3) := by decide +kernel
theorem dX1_empty_5 : decode cX1_empty 5 = .ok (.return_, 1) := by decide +kernel
theorem dX1_isPlace_0 : decode cX1_isPlace 0 = .ok (.iload_n 1, 1) := by decide +kernel
theorem dX1_isPlace_1 : decode cX1_isPlace 1 = .ok (.ifCond .lt 15, 3) := by decide +kernel
theorem dX1_isPlace_4 : decode cX1_isPlace 4 = .ok (.iload_n 1, 1) := by decide +kernel
theorem dX1_isPlace_5 : decode cX1_isPlace 5 = .ok (.aload_n 0, 1) := by decide +kernel
theorem dX1_isPlace_6 : decode cX1_isPlace 6 = .ok (.getfield 21, 3) := by decide +kernel
theorem dX1_isPlace_9 : decode cX1_isPlace 9 = .ok (.if_icmp .ge 7, 3) := by decide +kernel
theorem dX1_isPlace_12 : decode cX1_isPlace 12 = .ok (.iconst 1, 1) := by decide +kernel
theorem dX1_isPlace_13 : decode cX1_isPlace 13 = .ok (.goto 4, 3) := by decide +kernel
theorem dX1_isPlace_16 : decode cX1_isPlace 16 = .ok (.iconst 0, 1) := by decide +kernel
theorem dX1_isPlace_17 : decode cX1_isPlace 17 = .ok (.ireturn, 1) := by decide +kernel
set_option maxRecDepth 20000 in
theorem ggX2_init_X0_init : GoodIn wsX2_init wsX0_init := goodIn_r _ [20, 21, 2, 3, 22, 10, 11, 23, 24, 25, 26, 27, 28, 29, 30, 31, 32, 33, 34, 35, 47, 48, 37, 38] (by decide +kernel) (by decide +kernel)
set_option maxRecDepth 20000 in
theorem gX2_init_X0_init : GoodIn wsX2_init (wsX0_init) := ggX2_init_X0_init
set_option maxRecDepth 20000 in
theorem ggX2_init_X1_init : GoodIn wsX2_init wsX1_init := goodIn_r _ [27, 28, 2, 3, 29, 30, 31, 32, 33, 34, 35, 47, 48] (by decide +kernel) (by decide +kernel)
set_option maxRecDepth 20000 in
theorem gX2_init_X1_init : GoodIn wsX2_init (wsX1_init) := ggX2_init_X1_init
theorem dX2_init_0 : decode cX2_init 0 = .ok (.aload_n 0, 1) := by decide +kernel
theorem dX2_init_1 : decode cX2_init 1 = .ok (.invokespecial 3, 3) := by decide +kernel
theorem dX2_init_4 : decode cX2_init 4 = .ok (.aload_n 0, 1) := by decide +kernel
theorem dX2_init_5 : decode cX2_init 5 = .ok (.new 9, 3) := by decide +kernel
theorem dX2_init_8 : decode cX2_init 8 = .ok (.dup, 1) := by decide +kernel
theorem dX2_init_9 : decode cX2_init 9 = .ok (.sipush 200, 3) := by decide +kernel
theorem dX2_init_12 : decode cX2_init 12 = .ok (.invokespecial 11, 3) := by decide +kernel
theorem dX2_init_15 : decode cX2_init 15 = .ok (.putfield 14, 3) := by decide +kernel
theorem dX2_init_18 : decode cX2_init 18 = .ok (.aload_n 0, 1) := by decide +kernel
theorem dX2_init_19 : decode cX2_init 19 = .ok (.new 9, 3) := by decide +kernel
theorem dX2_init_22 : decode cX2_init 22 = .ok (.dup, 1) := by decide +kernel
theorem dX2_init_23 : decode cX2_init 23 = .ok (.sipush 200, 3) := by decide +kernel
theorem dX2_init_26 : decode cX2_init 26 = .ok (.invokespecial 11, 3) := by decide +kernel
theorem dX2_init_29 : decode cX2_init 29 = .ok (.putfield 18, 3) := by decide +kernel
theorem dX2_init_32 : decode cX2_init 32 = .ok (.aload_n 0, 1) := by decide +kernel
theorem dX2_init_33 : decode cX2_init 33 = .ok (.new 21, 3) := by decide +kernel
theorem dX2_init_36 : decode cX2_init 36 = .ok (.dup, 1) := by decide +kernel
theorem dX2_init_37 : decode cX2_init 37 = .ok (.sipush 200, 3) := by decide +kernel
theorem dX2_init_40 : decode cX2_init 40 = .ok (.invokespecial 23, 3) := by decide +kernel
theorem dX2_init_43 : decode cX2_init 43 = .ok (.putfield 24, 3) := by decide +kernel
theorem dX2_init_46 : decode cX2_init 46 = .ok (.aload_n 0, 1) := by decide +kernel
theorem dX2_init_47 : decode cX2_init 47 = .ok (.new 9, 3) := by decide +kernel
theorem dX2_init_50 : decode cX2_init 50 = .ok (.dup, 1) := by decide +kernel
theorem dX2_init_51 : decode cX2_init 51 = .ok (.bipush 61, 2) := by decide +kernel
theorem dX2_init_53 : decode cX2_init 53 = .ok (.invokespecial 11, 3) := by decide +kernel
theorem dX2_init_56 : decode cX2_init 56 = .ok (.putfield 28, 3) := by decide +kernel
theorem dX2_init_59 : decode cX2_init 59 = .ok (.aload_n 0, 1) := by decide +kernel
theorem dX2_init_60 : decode cX2_init 60 = .ok (.new 21, 3) := by decide +kernel
theorem dX2_init_63 : decode cX2_init 63 = .ok (.dup, 1) := by decide +kernel
theorem dX2_init_64 : decode cX2_init 64 = .ok (.bipush 61, 2) := by decide +kernel
theorem dX2_init_66 : decode cX2_init 66 = .ok (.invokespecial 23, 3) := by decide +kernel
theorem dX2_init_69 : decode cX2_init 69 = .ok (.putfield 31, 3) := by decide +kernel
theorem dX2_init_72 : decode cX2_init 72 = .ok (.aload_n 0, 1) := by decide +kernel
theorem dX2_init_73 : decode cX2_init 73 = .ok (.iconst 4, 1) := by decide +kernel
theorem dX2_init_74 : decode cX2_init 74 = .ok (.putfield 34, 3) := by decide +kernel
theorem dX2_init_77 : decode cX2_init 77 = .ok (.aload_n 0, 1) := by decide +kernel
theorem dX2_init_78 : decode cX2_init 78 = .ok (.iconst 0, 1) := by decide +kernel
theorem dX2_init_79 : decode cX2_init 79 = .ok (.putfield 38, 3) := by decide +kernel
theorem dX2_init_82 : decode cX2_init 82 = .ok (.aload_n 0, 1) := by decide +kernel
theorem dX2_init_83 : decode cX2_init 83 = .ok (.iconst 0, 1) := by decide +kernel
theorem dX2_init_84 : decode cX2_init 84 = .ok (.putfield 41, 3) := by decide +kernel
theorem dX2_init_87 : decode cX2_init 87 = .ok (.return_, 1) := by decide +kernel
set_option maxRecDepth 20000 in
theorem ggX2_put_X0_placeOf : GoodIn wsX2_put wsX0_placeOf := goodIn_r _ [7, 8, 9, 10, 11, 12, 13, 14, 15, 72, 73, 74, 75] (by decide +kernel) (by decide +kernel)
set_option maxRecDepth 20000 in
theorem gX2_put_X0_placeOf : GoodIn wsX2_put (wsV RX2 44 RX0 yX0_placeOf wsX0_placeOf) := goodIn_app (goodIn_of _ (by decide +kernel)) ggX2_put_X0_placeOf
set_option maxRecDepth 20000 in
theorem ggX2_put_X2_addToTable : GoodIn wsX2_put wsX2_addToTable := goodIn_ca (goodIn_r _ [20, 1, 21, 22, 23, 19, 24, 25, 26, 27, 28, 29, 6, 30, 8, 31, 32, 33, 12, 34, 14, 35, 36, 37, 38, 39, 40, 41, 42, 43, 15, 64, 65, 66, 67, 68, 69, 70, 71, 72, 73, 74, 75] (by decide +kernel) (by decide +kernel)) (goodIn_sub (fun _ h => List.mem_cons_of_mem _ (List.mem_append_right _ h)) (by decide +kernel))
set_option maxRecDepth 20000 in
theorem gX2_put_X2_addToTable : GoodIn wsX2_put (wsV RX2 48 RX2 yX2_addToTable wsX2_addToTable) := goodIn_app (goodIn_of _ (by decide +kernel)) ggX2_put_X2_addToTable
set_option maxRecDepth 20000 in
theorem ggX2_put_X0_valueIn : GoodIn wsX2_put wsX0_valueIn := goodIn_r _ [47, 39, 48, 49, 50, 12, 51, 15, 52, 53, 54, 55, 14, 72, 73, 74, 75] (by decide +kernel) (by decide +kernel)
set_option maxRecDepth 20000 in
theorem gX2_put_X0_valueIn : GoodIn wsX2_put (wsV RX2 54 RX0 yX0_valueIn wsX0_valueIn) := goodIn_app (goodIn_of _ (by decide +kernel)) ggX2_put_X0_valueIn
set_option maxRecDepth 20000 in
theorem ggX2_put_X0_setValue : GoodIn wsX2_put wsX0_setValue := goodIn_r _ [59, 39, 60, 61, 62, 12, 63, 15, 52, 53, 54, 55, 14, 72, 73, 74, 75] (by decide +kernel) (by decide +kernel)
set_option maxRecDepth 20000 in
theorem gX2_put_X0_setValue : GoodIn wsX2_put (wsV RX2 57 RX0 yX0_setValue wsX0_setValue) := goodIn_app (goodIn_of _ (by decide +kernel)) ggX2_put_X0_setValue
theorem dX2_put_0 : decode cX2_put 0 = .ok (.aload_n 0, 1) := by decide +kernel
theorem dX2_put_1 : decode cX2_put 1 = .ok (.getfield 14, 3) := by decide +kernel
theorem dX2_put_4 : decode cX2_put 4 = .ok (.iload_n 1, 1) := by decide +kernel
theorem dX2_put_5 : decode cX2_put 5 = .ok (.invokevirtual 44, 3) := by decide +kernel
theorem dX2_put_8 : decode cX2_put 8 = .ok (.istore_n 3, 1) := by decide +kernel
theorem dX2_put_9 : decode cX2_put 9 = .ok (.iload_n 3, 1) := by decide +kernel
theorem dX2_put_10 : decode cX2_put 10 = .ok (.iconst (-1), 1) := by decide +kernel
theorem dX2_put_11 : decode cX2_put 11 = .ok (.if_icmp .ne 13, 3) := by decide +kernel
theorem dX2_put_14 : decode cX2_put 14 = .ok (.aload_n 0, 1) := by decide +kernel
theorem dX2_put_15 : decode cX2_put 15 = .ok (.iload_n 1, 1) := by decide +kernel
theorem dX2_put_16 : decode cX2_put 16 = .ok (.iload_n 2, 1) := by decide +kernel
theorem dX2_put_17 : decode cX2_put 17 = .ok (.invokevirtual 48, 3) := by decide +kernel
theorem dX2_put_20 : decode cX2_put 20 = .ok (.ldc2_w 52, 3) := by decide +kernel
theorem dX2_put_23 : decode cX2_put 23 = .ok (.lreturn, 1) := by decide +kernel
theorem dX2_put_24 : decode cX2_put 24 = .ok (.aload_n 0, 1) := by decide +kernel
theorem dX2_put_25 : decode cX2_put 25 = .ok (.getfield 14, 3) := by decide +kernel
theorem dX2_put_28 : decode cX2_put 28 = .ok (.iload_n 3, 1) := by decide +kernel
theorem dX2_put_29 : decode cX2_put 29 = .ok (.invokevirtual 54, 3) := by decide +kernel
theorem dX2_put_32 : decode cX2_put 32 = .ok (.istore 4, 2) := by decide +kernel
theorem dX2_put_34 : decode cX2_put 34 = .ok (.aload_n 0, 1) := by decide +kernel
theorem dX2_put_35 : decode cX2_put 35 = .ok (.getfield 14, 3) := by decide +kernel
theorem dX2_put_38 : decode cX2_put 38 = .ok (.iload_n 3, 1) := by decide +kernel
theorem dX2_put_39 : decode cX2_put 39 = .ok (.iload_n 2, 1) := by decide +kernel
theorem dX2_put_40 : decode cX2_put 40 = .ok (.invokevirtual 57, 3) := by decide +kernel
theorem dX2_put_43 : decode cX2_put 43 = .ok (.iload 4, 2) := by decide +kernel
theorem dX2_put_45 : decode cX2_put 45 = .ok (.i2l, 1) := by decide +kernel
theorem dX2_put_46 : decode cX2_put 46 = .ok (.lreturn, 1) := by decide +kernel
set_option maxRecDepth 20000 in
theorem ggX2_putIfAbsent_X0_placeOf : GoodIn wsX2_putIfAbsent wsX0_placeOf := goodIn_r _ [7, 8, 9, 10, 11, 12, 13, 14, 15, 64, 65, 66, 67] (by decide +kernel) (by decide +kernel)
set_option maxRecDepth 20000 in
theorem gX2_putIfAbsent_X0_placeOf : GoodIn wsX2_putIfAbsent (wsV RX2 44 RX0 yX0_placeOf wsX0_placeOf) := goodIn_app (goodIn_of _ (by decide +kernel)) ggX2_putIfAbsent_X0_placeOf
set_option maxRecDepth 20000 in
theorem ggX2_putIfAbsent_X2_addToTable : GoodIn wsX2_putIfAbsent wsX2_addToTable := goodIn_ca (goodIn_r _ [20, 1, 21, 22, 23, 19, 24, 25, 26, 27, 28, 29, 6, 30, 8, 31, 32, 33, 12, 34, 14, 35, 36, 37, 38, 39, 40, 41, 42, 43, 15, 56, 57, 58, 59, 60, 61, 62, 63, 64, 65, 66, 67] (by decide +kernel) (by decide +kernel)) (goodIn_sub (fun _ h => List.mem_cons_of_mem _ (List.mem_append_right _ h)) (by decide +kernel))
set_option maxRecDepth 20000 in
theorem gX2_putIfAbsent_X2_addToTable : GoodIn wsX2_putIfAbsent (wsV RX2 48 RX2 yX2_addToTable wsX2_addToTable) := goodIn_app (goodIn_of _ (by decide +kernel)) ggX2_putIfAbsent_X2_addToTable
set_option maxRecDepth 20000 in
theorem ggX2_putIfAbsent_X0_valueIn : GoodIn wsX2_putIfAbsent wsX0_valueIn := goodIn_r _ [47, 39, 48, 49, 50, 12, 51, 15, 52, 53, 54, 55, 14, 64, 65, 66, 67] (by decide +kernel) (by decide +kernel)
set_option maxRecDepth 20000 in
theorem gX2_putIfAbsent_X0_valueIn : GoodIn wsX2_putIfAbsent (wsV RX2 54 RX0 yX0_valueIn wsX0_valueIn) := goodIn_app (goodIn_of _ (by decide +kernel)) ggX2_putIfAbsent_X0_valueIn
theorem dX2_putIfAbsent_0 : decode cX2_putIfAbsent 0 = .ok (.aload_n 0, 1) := by decide +kernel
theorem dX2_putIfAbsent_1 : decode cX2_putIfAbsent 1 = .ok (.getfield 14, 3) := by decide +kernel
theorem dX2_putIfAbsent_4 : decode cX2_putIfAbsent 4 = .ok (.iload_n 1, 1) := by decide +kernel
theorem dX2_putIfAbsent_5 : decode cX2_putIfAbsent 5 = .ok (.invokevirtual 44, 3) := by decide +kernel
theorem dX2_putIfAbsent_8 : decode cX2_putIfAbsent 8 = .ok (.istore_n 3, 1) := by decide +kernel
theorem dX2_putIfAbsent_9 : decode cX2_putIfAbsent 9 = .ok (.iload_n 3, 1) := by decide +kernel
theorem dX2_putIfAbsent_10 : decode cX2_putIfAbsent 10 = .ok (.iconst (-1), 1) := by decide +kernel
theorem dX2_putIfAbsent_11 : decode cX2_putIfAbsent 11 = .ok (.if_icmp .ne 13, 3) := by decide +kernel
theorem dX2_putIfAbsent_14 : decode cX2_putIfAbsent 14 = .ok (.aload_n 0, 1) := by decide +kernel
theorem dX2_putIfAbsent_15 : decode cX2_putIfAbsent 15 = .ok (.iload_n 1, 1) := by decide +kernel
theorem dX2_putIfAbsent_16 : decode cX2_putIfAbsent 16 = .ok (.iload_n 2, 1) := by decide +kernel
theorem dX2_putIfAbsent_17 : decode cX2_putIfAbsent 17 = .ok (.invokevirtual 48, 3) := by decide +kernel
theorem dX2_putIfAbsent_20 : decode cX2_putIfAbsent 20 = .ok (.ldc2_w 52, 3) := by decide +kernel
theorem dX2_putIfAbsent_23 : decode cX2_putIfAbsent 23 = .ok (.lreturn, 1) := by decide +kernel
theorem dX2_putIfAbsent_24 : decode cX2_putIfAbsent 24 = .ok (.aload_n 0, 1) := by decide +kernel
theorem dX2_putIfAbsent_25 : decode cX2_putIfAbsent 25 = .ok (.getfield 14, 3) := by decide +kernel
theorem dX2_putIfAbsent_28 : decode cX2_putIfAbsent 28 = .ok (.iload_n 3, 1) := by decide +kernel
theorem dX2_putIfAbsent_29 : decode cX2_putIfAbsent 29 = .ok (.invokevirtual 54, 3) := by decide +kernel
theorem dX2_putIfAbsent_32 : decode cX2_putIfAbsent 32 = .ok (.i2l, 1) := by decide +kernel
theorem dX2_putIfAbsent_33 : decode cX2_putIfAbsent 33 = .ok (.lreturn, 1) := by decide +kernel
set_option maxRecDepth 20000 in
theorem ggX2_get_X0_placeOf : GoodIn wsX2_get wsX0_placeOf := goodIn_r _ [6, 7, 8, 9, 10, 11, 12, 13, 14, 37, 38, 39, 40] (by decide +kernel) (by decide +kernel)
set_option maxRecDepth 20000 in
theorem gX2_get_X0_placeOf : GoodIn wsX2_get (wsV RX2 44 RX0 yX0_placeOf wsX0_placeOf) := goodIn_app (goodIn_of _ (by decide +kernel)) ggX2_get_X0_placeOf
set_option maxRecDepth 20000 in
theorem ggX2_get_X0_valueOrNone : GoodIn wsX2_get wsX0_valueOrNone := goodIn_r _ [18, 19, 20, 21, 22, 23, 11, 24, 14, 25, 26, 27, 28, 13, 37, 38, 39, 40] (by decide +kernel) (by decide +kernel)
set_option maxRecDepth 20000 in
theorem gX2_get_X0_valueOrNone : GoodIn wsX2_get (wsV RX2 60 RX0 yX0_valueOrNone wsX0_valueOrNone) := goodIn_app (goodIn_of _ (by decide +kernel)) ggX2_get_X0_valueOrNone
theorem dX2_get_0 : decode cX2_get 0 = .ok (.aload_n 0, 1) := by decide +kernel
theorem dX2_get_1 : decode cX2_get 1 = .ok (.getfield 14, 3) := by decide +kernel
theorem dX2_get_4 : decode cX2_get 4 = .ok (.aload_n 0, 1) := by decide +kernel
theorem dX2_get_5 : decode cX2_get 5 = .ok (.getfield 14, 3) := by decide +kernel
theorem dX2_get_8 : decode cX2_get 8 = .ok (.iload_n 1, 1) := by decide +kernel
theorem dX2_get_9 : decode cX2_get 9 = .ok (.invokevirtual 44, 3) := by decide +kernel
theorem dX2_get_12 : decode cX2_get 12 = .ok (.invokevirtual 60, 3) := by decide +kernel
theorem dX2_get_15 : decode cX2_get 15 = .ok (.lreturn, 1) := by decide +kernel
set_option maxRecDepth 20000 in
theorem ggX2_getOrDefault_X0_placeOf : GoodIn wsX2_getOrDefault wsX0_placeOf := goodIn_r _ [6, 7, 8, 9, 10, 11, 12, 13, 14, 36, 37, 38, 39] (by decide +kernel) (by decide +kernel)
set_option maxRecDepth 20000 in
theorem gX2_getOrDefault_X0_placeOf : GoodIn wsX2_getOrDefault (wsV RX2 44 RX0 yX0_placeOf wsX0_placeOf) := goodIn_app (goodIn_of _ (by decide +kernel)) ggX2_getOrDefault_X0_placeOf
set_option maxRecDepth 20000 in
theorem ggX2_getOrDefault_X0_valueOr : GoodIn wsX2_getOrDefault wsX0_valueOr := goodIn_r _ [18, 19, 20, 21, 22, 11, 23, 14, 24, 25, 26, 27, 13, 36, 37, 38, 39] (by decide +kernel) (by decide +kernel)
set_option maxRecDepth 20000 in
theorem gX2_getOrDefault_X0_valueOr : GoodIn wsX2_getOrDefault (wsV RX2 64 RX0 yX0_valueOr wsX0_valueOr) := goodIn_app (goodIn_of _ (by decide +kernel)) ggX2_getOrDefault_X0_valueOr
theorem dX2_getOrDefault_0 : decode cX2_getOrDefault 0 = .ok (.aload_n 0, 1) := by decide +kernel
theorem dX2_getOrDefault_1 : decode cX2_getOrDefault 1 = .ok (.getfield 14, 3) := by decide +kernel
theorem dX2_getOrDefault_4 : decode cX2_getOrDefault 4 = .ok (.aload_n 0, 1) := by decide +kernel
theorem dX2_getOrDefault_5 : decode cX2_getOrDefault 5 = .ok (.getfield 14, 3) := by decide +kernel
theorem dX2_getOrDefault_8 : decode cX2_getOrDefault 8 = .ok (.iload_n 1, 1) := by decide +kernel
theorem dX2_getOrDefault_9 : decode cX2_getOrDefault 9 = .ok (.invokevirtual 44, 3) := by decide +kernel
theorem dX2_getOrDefault_12 : decode cX2_getOrDefault 12 = .ok (.iload_n 2, 1) := by decide +kernel
theorem dX2_getOrDefault_13 : decode cX2_getOrDefault 13 = .ok (.invokevirtual 64, 3) := by decide +kernel
theorem dX2_getOrDefault_16 : decode cX2_getOrDefault 16 = .ok (.ireturn, 1) := by decide +kernel
set_option maxRecDepth 20000 in
theorem ggX2_replace_X0_placeOf : GoodIn wsX2_replace wsX0_placeOf := goodIn_r _ [6, 7, 8, 9, 10, 11, 12, 13, 14, 45, 46, 47, 48] (by decide +kernel) (by decide +kernel)
set_option maxRecDepth 20000 in
theorem gX2_replace_X0_placeOf : GoodIn wsX2_replace (wsV RX2 44 RX0 yX0_placeOf wsX0_placeOf) := goodIn_app (goodIn_of _ (by decide +kernel)) ggX2_replace_X0_placeOf
set_option maxRecDepth 20000 in
theorem ggX2_replace_X0_valueOrNone : GoodIn wsX2_replace wsX0_valueOrNone := goodIn_r _ [18, 19, 20, 21, 22, 23, 11, 24, 14, 25, 26, 27, 28, 13, 45, 46, 47, 48] (by decide +kernel) (by decide +kernel)
set_option maxRecDepth 20000 in
theorem gX2_replace_X0_valueOrNone : GoodIn wsX2_replace (wsV RX2 60 RX0 yX0_valueOrNone wsX0_valueOrNone) := goodIn_app (goodIn_of _ (by decide +kernel)) ggX2_replace_X0_valueOrNone
set_option maxRecDepth 20000 in
theorem ggX2_replace_X0_setValue : GoodIn wsX2_replace wsX0_setValue := goodIn_r _ [32, 20, 33, 34, 35, 11, 36, 14, 25, 26, 27, 28, 13, 45, 46, 47, 48] (by decide +kernel) (by decide +kernel)
set_option maxRecDepth 20000 in
theorem gX2_replace_X0_setValue : GoodIn wsX2_replace (wsV RX2 57 RX0 yX0_setValue wsX0_setValue) := goodIn_app (goodIn_of _ (by decide +kernel)) ggX2_replace_X0_setValue
theorem dX2_replace_0 : decode cX2_replace 0 = .ok (.aload_n 0, 1) := by decide +kernel
theorem dX2_replace_1 : decode cX2_replace 1 = .ok (.getfield 14, 3) := by decide +kernel
theorem dX2_replace_4 : decode cX2_replace 4 = .ok (.iload_n 1, 1) := by decide +kernel
theorem dX2_replace_5 : decode cX2_replace 5 = .ok (.invokevirtual 44, 3) := by decide +kernel
theorem dX2_replace_8 : decode cX2_replace 8 = .ok (.istore_n 3, 1) := by decide +kernel
theorem dX2_replace_9 : decode cX2_replace 9 = .ok (.aload_n 0, 1) := by decide +kernel
theorem dX2_replace_10 : decode cX2_replace 10 = .ok (.getfield 14, 3) := by decide +kernel
theorem dX2_replace_13 : decode cX2_replace 13 = .ok (.iload_n 3, 1) := by decide +kernel
theorem dX2_replace_14 : decode cX2_replace 14 = .ok (.invokevirtual 60, 3) := by decide +kernel
theorem dX2_replace_17 : decode cX2_replace 17 = .ok (.lstore 4, 2) := by decide +kernel
theorem dX2_replace_19 : decode cX2_replace 19 = .ok (.aload_n 0, 1) := by decide +kernel
theorem dX2_replace_20 : decode cX2_replace 20 = .ok (.getfield 14, 3) := by decide +kernel
theorem dX2_replace_23 : decode cX2_replace 23 = .ok (.iload_n 3, 1) := by decide +kernel
theorem dX2_replace_24 : decode cX2_replace 24 = .ok (.iload_n 2, 1) := by decide +kernel
theorem dX2_replace_25 : decode cX2_replace 25 = .ok (.invokevirtual 57, 3) := by decide +kernel
theorem dX2_replace_28 : decode cX2_replace 28 = .ok (.lload 4, 2) := by decide +kernel
theorem dX2_replace_30 : decode cX2_replace 30 = .ok (.lreturn, 1) := by decide +kernel
set_option maxRecDepth 20000 in
theorem ggX2_replaceTold_X0_placeOf : GoodIn wsX2_replaceTold wsX0_placeOf := goodIn_r _ [6, 7, 8, 9, 10, 11, 12, 13, 14, 45, 46, 47, 48] (by decide +kernel) (by decide +kernel)
set_option maxRecDepth 20000 in
theorem gX2_replaceTold_X0_placeOf : GoodIn wsX2_replaceTold (wsV RX2 44 RX0 yX0_placeOf wsX0_placeOf) := goodIn_app (goodIn_of _ (by decide +kernel)) ggX2_replaceTold_X0_placeOf
set_option maxRecDepth 20000 in
theorem ggX2_replaceTold_X0_valueOrNone : GoodIn wsX2_replaceTold wsX0_valueOrNone := goodIn_r _ [18, 19, 20, 21, 22, 23, 11, 24, 14, 25, 26, 27, 28, 13, 45, 46, 47, 48] (by decide +kernel) (by decide +kernel)
set_option maxRecDepth 20000 in
theorem gX2_replaceTold_X0_valueOrNone : GoodIn wsX2_replaceTold (wsV RX2 60 RX0 yX0_valueOrNone wsX0_valueOrNone) := goodIn_app (goodIn_of _ (by decide +kernel)) ggX2_replaceTold_X0_valueOrNone
set_option maxRecDepth 20000 in
theorem ggX2_replaceTold_X0_setValue : GoodIn wsX2_replaceTold wsX0_setValue := goodIn_r _ [32, 20, 33, 34, 35, 11, 36, 14, 25, 26, 27, 28, 13, 45, 46, 47, 48] (by decide +kernel) (by decide +kernel)
set_option maxRecDepth 20000 in
theorem gX2_replaceTold_X0_setValue : GoodIn wsX2_replaceTold (wsV RX2 57 RX0 yX0_setValue wsX0_setValue) := goodIn_app (goodIn_of _ (by decide +kernel)) ggX2_replaceTold_X0_setValue
theorem dX2_replaceTold_0 : decode cX2_replaceTold 0 = .ok (.aload_n 0, 1) := by decide +kernel
theorem dX2_replaceTold_1 : decode cX2_replaceTold 1 = .ok (.getfield 14, 3) := by decide +kernel
theorem dX2_replaceTold_4 : decode cX2_replaceTold 4 = .ok (.iload_n 1, 1) := by decide +kernel
theorem dX2_replaceTold_5 : decode cX2_replaceTold 5 = .ok (.invokevirtual 44, 3) := by decide +kernel
theorem dX2_replaceTold_8 : decode cX2_replaceTold 8 = .ok (.istore 4, 2) := by decide +kernel
theorem dX2_replaceTold_10 : decode cX2_replaceTold 10 = .ok (.aload_n 0, 1) := by decide +kernel
theorem dX2_replaceTold_11 : decode cX2_replaceTold 11 = .ok (.getfield 14, 3) := by decide +kernel
theorem dX2_replaceTold_14 : decode cX2_replaceTold 14 = .ok (.iload 4, 2) := by decide +kernel
theorem dX2_replaceTold_16 : decode cX2_replaceTold 16 = .ok (.invokevirtual 60, 3) := by decide +kernel
theorem dX2_replaceTold_19 : decode cX2_replaceTold 19 = .ok (.iload_n 2, 1) := by decide +kernel
theorem dX2_replaceTold_20 : decode cX2_replaceTold 20 = .ok (.i2l, 1) := by decide +kernel
theorem dX2_replaceTold_21 : decode cX2_replaceTold 21 = .ok (.lcmp, 1) := by decide +kernel
theorem dX2_replaceTold_22 : decode cX2_replaceTold 22 = .ok (.ifCond .eq 5, 3) := by decide +kernel
theorem dX2_replaceTold_25 : decode cX2_replaceTold 25 = .ok (.iconst 0, 1) := by decide +kernel
theorem dX2_replaceTold_26 : decode cX2_replaceTold 26 = .ok (.ireturn, 1) := by decide +kernel
theorem dX2_replaceTold_27 : decode cX2_replaceTold 27 = .ok (.aload_n 0, 1) := by decide +kernel
theorem dX2_replaceTold_28 : decode cX2_replaceTold 28 = .ok (.getfield 14, 3) := by decide +kernel
theorem dX2_replaceTold_31 : decode cX2_replaceTold 31 = .ok (.iload 4, 2) := by decide +kernel
theorem dX2_replaceTold_33 : decode cX2_replaceTold 33 = .ok (.iload_n 3, 1) := by decide +kernel
theorem dX2_replaceTold_34 : decode cX2_replaceTold 34 = .ok (.invokevirtual 57, 3) := by decide +kernel
theorem dX2_replaceTold_37 : decode cX2_replaceTold 37 = .ok (.iconst 1, 1) := by decide +kernel
theorem dX2_replaceTold_38 : decode cX2_replaceTold 38 = .ok (.ireturn, 1) := by decide +kernel
set_option maxRecDepth 20000 in
theorem ggX2_remove_X0_placeOf : GoodIn wsX2_remove wsX0_placeOf := goodIn_r _ [6, 7, 8, 9, 10, 11, 12, 13, 14, 49, 50, 51, 52] (by decide +kernel) (by decide +kernel)
set_option maxRecDepth 20000 in
theorem gX2_remove_X0_placeOf : GoodIn wsX2_remove (wsV RX2 44 RX0 yX0_placeOf wsX0_placeOf) := goodIn_app (goodIn_of _ (by decide +kernel)) ggX2_remove_X0_placeOf
set_option maxRecDepth 20000 in
theorem ggX2_remove_X0_valueOrNone : GoodIn wsX2_remove wsX0_valueOrNone := goodIn_r _ [18, 19, 20, 21, 22, 23, 11, 24, 14, 25, 26, 27, 28, 13, 49, 50, 51, 52] (by decide +kernel) (by decide +kernel)
set_option maxRecDepth 20000 in
theorem gX2_remove_X0_valueOrNone : GoodIn wsX2_remove (wsV RX2 60 RX0 yX0_valueOrNone wsX0_valueOrNone) := goodIn_app (goodIn_of _ (by decide +kernel)) ggX2_remove_X0_valueOrNone
set_option maxRecDepth 20000 in
theorem ggX2_remove_X0_cutOut : GoodIn wsX2_remove wsX0_cutOut := goodIn_r _ [32, 7, 20, 33, 34, 35, 11, 36, 13, 14, 37, 38, 39, 40, 25, 26, 27, 28, 49, 50, 51, 52] (by decide +kernel) (by decide +kernel)
set_option maxRecDepth 20000 in
theorem gX2_remove_X0_cutOut : GoodIn wsX2_remove (wsV RX2 68 RX0 yX0_cutOut wsX0_cutOut) := goodIn_app (goodIn_of _ (by decide +kernel)) ggX2_remove_X0_cutOut
theorem dX2_remove_0 : decode cX2_remove 0 = .ok (.aload_n 0, 1) := by decide +kernel
theorem dX2_remove_1 : decode cX2_remove 1 = .ok (.getfield 14, 3) := by decide +kernel
theorem dX2_remove_4 : decode cX2_remove 4 = .ok (.iload_n 1, 1) := by decide +kernel
theorem dX2_remove_5 : decode cX2_remove 5 = .ok (.invokevirtual 44, 3) := by decide +kernel
theorem dX2_remove_8 : decode cX2_remove 8 = .ok (.istore_n 2, 1) := by decide +kernel
theorem dX2_remove_9 : decode cX2_remove 9 = .ok (.aload_n 0, 1) := by decide +kernel
theorem dX2_remove_10 : decode cX2_remove 10 = .ok (.getfield 14, 3) := by decide +kernel
theorem dX2_remove_13 : decode cX2_remove 13 = .ok (.iload_n 2, 1) := by decide +kernel
theorem dX2_remove_14 : decode cX2_remove 14 = .ok (.invokevirtual 60, 3) := by decide +kernel
theorem dX2_remove_17 : decode cX2_remove 17 = .ok (.lstore_n 3, 1) := by decide +kernel
theorem dX2_remove_18 : decode cX2_remove 18 = .ok (.aload_n 0, 1) := by decide +kernel
theorem dX2_remove_19 : decode cX2_remove 19 = .ok (.getfield 14, 3) := by decide +kernel
theorem dX2_remove_22 : decode cX2_remove 22 = .ok (.iload_n 2, 1) := by decide +kernel
theorem dX2_remove_23 : decode cX2_remove 23 = .ok (.invokevirtual 68, 3) := by decide +kernel
theorem dX2_remove_26 : decode cX2_remove 26 = .ok (.lload_n 3, 1) := by decide +kernel
theorem dX2_remove_27 : decode cX2_remove 27 = .ok (.lreturn, 1) := by decide +kernel
set_option maxRecDepth 20000 in
theorem ggX2_removeTold_X0_placeOf : GoodIn wsX2_removeTold wsX0_placeOf := goodIn_r _ [6, 7, 8, 9, 10, 11, 12, 13, 14, 49, 50, 51, 52] (by decide +kernel) (by decide +kernel)
set_option maxRecDepth 20000 in
theorem gX2_removeTold_X0_placeOf : GoodIn wsX2_removeTold (wsV RX2 44 RX0 yX0_placeOf wsX0_placeOf) := goodIn_app (goodIn_of _ (by decide +kernel)) ggX2_removeTold_X0_placeOf
set_option maxRecDepth 20000 in
theorem ggX2_removeTold_X0_valueOrNone : GoodIn wsX2_removeTold wsX0_valueOrNone := goodIn_r _ [18, 19, 20, 21, 22, 23, 11, 24, 14, 25, 26, 27, 28, 13, 49, 50, 51, 52] (by decide +kernel) (by decide +kernel)
set_option maxRecDepth 20000 in
theorem gX2_removeTold_X0_valueOrNone : GoodIn wsX2_removeTold (wsV RX2 60 RX0 yX0_valueOrNone wsX0_valueOrNone) := goodIn_app (goodIn_of _ (by decide +kernel)) ggX2_removeTold_X0_valueOrNone
set_option maxRecDepth 20000 in
theorem ggX2_removeTold_X0_cutOut : GoodIn wsX2_removeTold wsX0_cutOut := goodIn_r _ [32, 7, 20, 33, 34, 35, 11, 36, 13, 14, 37, 38, 39, 40, 25, 26, 27, 28, 49, 50, 51, 52] (by decide +kernel) (by decide +kernel)
set_option maxRecDepth 20000 in
theorem gX2_removeTold_X0_cutOut : GoodIn wsX2_removeTold (wsV RX2 68 RX0 yX0_cutOut wsX0_cutOut) := goodIn_app (goodIn_of _ (by decide +kernel)) ggX2_removeTold_X0_cutOut
theorem dX2_removeTold_0 : decode cX2_removeTold 0 = .ok (.aload_n 0, 1) := by decide +kernel
theorem dX2_removeTold_1 : decode cX2_removeTold 1 = .ok (.getfield 14, 3) := by decide +kernel
theorem dX2_removeTold_4 : decode cX2_removeTold 4 = .ok (.iload_n 1, 1) := by decide +kernel
theorem dX2_removeTold_5 : decode cX2_removeTold 5 = .ok (.invokevirtual 44, 3) := by decide +kernel
theorem dX2_removeTold_8 : decode cX2_removeTold 8 = .ok (.istore_n 3, 1) := by decide +kernel
theorem dX2_removeTold_9 : decode cX2_removeTold 9 = .ok (.aload_n 0, 1) := by decide +kernel
theorem dX2_removeTold_10 : decode cX2_removeTold 10 = .ok (.getfield 14, 3) := by decide +kernel
theorem dX2_removeTold_13 : decode cX2_removeTold 13 = .ok (.iload_n 3, 1) := by decide +kernel
theorem dX2_removeTold_14 : decode cX2_removeTold 14 = .ok (.invokevirtual 60, 3) := by decide +kernel
theorem dX2_removeTold_17 : decode cX2_removeTold 17 = .ok (.iload_n 2, 1) := by decide +kernel
theorem dX2_removeTold_18 : decode cX2_removeTold 18 = .ok (.i2l, 1) := by decide +kernel
theorem dX2_removeTold_19 : decode cX2_removeTold 19 = .ok (.lcmp, 1) := by decide +kernel
theorem dX2_removeTold_20 : decode cX2_removeTold 20 = .ok (.ifCond .eq 5, 3) := by decide +kernel
theorem dX2_removeTold_23 : decode cX2_removeTold 23 = .ok (.iconst 0, 1) := by decide +kernel
theorem dX2_removeTold_24 : decode cX2_removeTold 24 = .ok (.ireturn, 1) := by decide +kernel
theorem dX2_removeTold_25 : decode cX2_removeTold 25 = .ok (.aload_n 0, 1) := by decide +kernel
theorem dX2_removeTold_26 : decode cX2_removeTold 26 = .ok (.getfield 14, 3) := by decide +kernel
theorem dX2_removeTold_29 : decode cX2_removeTold 29 = .ok (.iload_n 3, 1) := by decide +kernel
theorem dX2_removeTold_30 : decode cX2_removeTold 30 = .ok (.invokevirtual 68, 3) := by decide +kernel
theorem dX2_removeTold_33 : decode cX2_removeTold 33 = .ok (.iconst 1, 1) := by decide +kernel
theorem dX2_removeTold_34 : decode cX2_removeTold 34 = .ok (.ireturn, 1) := by decide +kernel
set_option maxRecDepth 20000 in
theorem ggX2_containsKey_X0_hasKey : GoodIn wsX2_containsKey wsX0_hasKey := goodIn_r _ [6, 7, 8, 9, 10, 11, 12, 13, 14, 15, 16, 17, 18, 27, 28, 29, 30] (by decide +kernel) (by decide +kernel)
set_option maxRecDepth 20000 in
theorem gX2_containsKey_X0_hasKey : GoodIn wsX2_containsKey (wsV RX2 71 RX0 yX0_hasKey wsX0_hasKey) := goodIn_app (goodIn_of _ (by decide +kernel)) ggX2_containsKey_X0_hasKey
theorem dX2_containsKey_0 : decode cX2_containsKey 0 = .ok (.aload_n 0, 1) := by decide +kernel
theorem dX2_containsKey_1 : decode cX2_containsKey 1 = .ok (.getfield 14, 3) := by decide +kernel
theorem dX2_containsKey_4 : decode cX2_containsKey 4 = .ok (.iload_n 1, 1) := by decide +kernel
theorem dX2_containsKey_5 : decode cX2_containsKey 5 = .ok (.invokevirtual 71, 3) := by decide +kernel
theorem dX2_containsKey_8 : decode cX2_containsKey 8 = .ok (.ireturn, 1) := by decide +kernel
set_option maxRecDepth 20000 in
theorem ggX2_containsValue_X0_hasValue : GoodIn wsX2_containsValue wsX0_hasValue := goodIn_r _ [6, 7, 8, 9, 10, 11, 12, 13, 14, 15, 16, 17, 18, 27, 28, 29, 30] (by decide +kernel) (by decide +kernel)
set_option maxRecDepth 20000 in
theorem gX2_containsValue_X0_hasValue : GoodIn wsX2_containsValue (wsV RX2 75 RX0 yX0_hasValue wsX0_hasValue) := goodIn_app (goodIn_of _ (by decide +kernel)) ggX2_containsValue_X0_hasValue
theorem dX2_containsValue_0 : decode cX2_containsValue 0 = .ok (.aload_n 0, 1) := by decide +kernel
theorem dX2_containsValue_1 : decode cX2_containsValue 1 = .ok (.getfield 14, 3) := by decide +kernel
theorem dX2_containsValue_4 : decode cX2_containsValue 4 = .ok (.iload_n 1, 1) := by decide +kernel
theorem dX2_containsValue_5 : decode cX2_containsValue 5 = .ok (.invokevirtual 75, 3) := by decide +kernel
theorem dX2_containsValue_8 : decode cX2_containsValue 8 = .ok (.ireturn, 1) := by decide +kernel
set_option maxRecDepth 20000 in
theorem ggX2_merge_X0_placeOf : GoodIn wsX2_merge wsX0_placeOf := goodIn_r _ [6, 7, 8, 9, 10, 11, 12, 13, 14, 88, 89, 90, 91] (by decide +kernel) (by decide +kernel)
set_option maxRecDepth 20000 in
theorem gX2_merge_X0_placeOf : GoodIn wsX2_merge (wsV RX2 44 RX0 yX0_placeOf wsX0_placeOf) := goodIn_app (goodIn_of _ (by decide +kernel)) ggX2_merge_X0_placeOf
set_option maxRecDepth 20000 in
theorem ggX2_merge_X2_addToTable : GoodIn wsX2_merge wsX2_addToTable := goodIn_ca (goodIn_r _ [19, 1, 20, 21, 22, 18, 23, 24, 25, 26, 27, 28, 5, 29, 7, 30, 31, 32, 11, 33, 13, 34, 35, 36, 37, 38, 39, 40, 41, 42, 14, 80, 81, 82, 83, 84, 85, 86, 87, 88, 89, 90, 91] (by decide +kernel) (by decide +kernel)) (goodIn_sub (fun _ h => List.mem_cons_of_mem _ (List.mem_append_right _ h)) (by decide +kernel))
set_option maxRecDepth 20000 in
theorem gX2_merge_X2_addToTable : GoodIn wsX2_merge (wsV RX2 48 RX2 yX2_addToTable wsX2_addToTable) := goodIn_app (goodIn_of _ (by decide +kernel)) ggX2_merge_X2_addToTable
set_option maxRecDepth 20000 in
theorem ggX2_merge_X0_valueIn : GoodIn wsX2_merge wsX0_valueIn := goodIn_r _ [46, 38, 47, 48, 49, 11, 50, 14, 51, 52, 53, 54, 13, 88, 89, 90, 91] (by decide +kernel) (by decide +kernel)
set_option maxRecDepth 20000 in
theorem gX2_merge_X0_valueIn : GoodIn wsX2_merge (wsV RX2 54 RX0 yX0_valueIn wsX0_valueIn) := goodIn_app (goodIn_of _ (by decide +kernel)) ggX2_merge_X0_valueIn
set_option maxRecDepth 20000 in
theorem ggX2_merge_X2_settle : GoodIn wsX2_merge wsX2_settle := goodIn_r _ [58, 1, 59, 60, 61, 62, 5, 63, 7, 38, 64, 65, 66, 11, 67, 13, 14, 68, 69, 70, 71, 51, 52, 53, 54, 72, 73, 74, 75, 76, 77, 78, 79, 80, 81, 82, 83, 84, 85, 86, 87, 88, 89, 90, 91] (by decide +kernel) (by decide +kernel)
set_option maxRecDepth 20000 in
theorem gX2_merge_X2_settle : GoodIn wsX2_merge (wsV RX2 78 RX2 yX2_settle wsX2_settle) := goodIn_app (goodIn_of _ (by decide +kernel)) ggX2_merge_X2_settle
theorem dX2_merge_0 : decode cX2_merge 0 = .ok (.aload_n 0, 1) := by decide +kernel
theorem dX2_merge_1 : decode cX2_merge 1 = .ok (.getfield 14, 3) := by decide +kernel
theorem dX2_merge_4 : decode cX2_merge 4 = .ok (.iload_n 1, 1) := by decide +kernel
theorem dX2_merge_5 : decode cX2_merge 5 = .ok (.invokevirtual 44, 3) := by decide +kernel
theorem dX2_merge_8 : decode cX2_merge 8 = .ok (.istore_n 3, 1) := by decide +kernel
theorem dX2_merge_9 : decode cX2_merge 9 = .ok (.iload_n 3, 1) := by decide +kernel
theorem dX2_merge_10 : decode cX2_merge 10 = .ok (.iconst (-1), 1) := by decide +kernel
theorem dX2_merge_11 : decode cX2_merge 11 = .ok (.if_icmp .ne 12, 3) := by decide +kernel
theorem dX2_merge_14 : decode cX2_merge 14 = .ok (.aload_n 0, 1) := by decide +kernel
theorem dX2_merge_15 : decode cX2_merge 15 = .ok (.iload_n 1, 1) := by decide +kernel
theorem dX2_merge_16 : decode cX2_merge 16 = .ok (.iload_n 2, 1) := by decide +kernel
theorem dX2_merge_17 : decode cX2_merge 17 = .ok (.invokevirtual 48, 3) := by decide +kernel
theorem dX2_merge_20 : decode cX2_merge 20 = .ok (.iload_n 2, 1) := by decide +kernel
theorem dX2_merge_21 : decode cX2_merge 21 = .ok (.i2l, 1) := by decide +kernel
theorem dX2_merge_22 : decode cX2_merge 22 = .ok (.lreturn, 1) := by decide +kernel
theorem dX2_merge_23 : decode cX2_merge 23 = .ok (.aload_n 0, 1) := by decide +kernel
theorem dX2_merge_24 : decode cX2_merge 24 = .ok (.getfield 14, 3) := by decide +kernel
theorem dX2_merge_27 : decode cX2_merge 27 = .ok (.iload_n 3, 1) := by decide +kernel
theorem dX2_merge_28 : decode cX2_merge 28 = .ok (.invokevirtual 54, 3) := by decide +kernel
theorem dX2_merge_31 : decode cX2_merge 31 = .ok (.iload_n 2, 1) := by decide +kernel
theorem dX2_merge_32 : decode cX2_merge 32 = .ok (.iadd, 1) := by decide +kernel
theorem dX2_merge_33 : decode cX2_merge 33 = .ok (.istore 4, 2) := by decide +kernel
theorem dX2_merge_35 : decode cX2_merge 35 = .ok (.aload_n 0, 1) := by decide +kernel
theorem dX2_merge_36 : decode cX2_merge 36 = .ok (.iload_n 3, 1) := by decide +kernel
theorem dX2_merge_37 : decode cX2_merge 37 = .ok (.iload 4, 2) := by decide +kernel
theorem dX2_merge_39 : decode cX2_merge 39 = .ok (.iload 4, 2) := by decide +kernel
theorem dX2_merge_41 : decode cX2_merge 41 = .ok (.ifCond .ne 7, 3) := by decide +kernel
theorem dX2_merge_44 : decode cX2_merge 44 = .ok (.iconst 1, 1) := by decide +kernel
theorem dX2_merge_45 : decode cX2_merge 45 = .ok (.goto 4, 3) := by decide +kernel
theorem dX2_merge_48 : decode cX2_merge 48 = .ok (.iconst 0, 1) := by decide +kernel
theorem dX2_merge_49 : decode cX2_merge 49 = .ok (.invokevirtual 78, 3) := by decide +kernel
theorem dX2_merge_52 : decode cX2_merge 52 = .ok (.lreturn, 1) := by decide +kernel
set_option maxRecDepth 20000 in
theorem ggX2_computeIfAbsent_X0_placeOf : GoodIn wsX2_computeIfAbsent wsX0_placeOf := goodIn_r _ [7, 8, 9, 10, 11, 12, 13, 14, 15, 60, 61, 62, 63] (by decide +kernel) (by decide +kernel)
set_option maxRecDepth 20000 in
theorem gX2_computeIfAbsent_X0_placeOf : GoodIn wsX2_computeIfAbsent (wsV RX2 44 RX0 yX0_placeOf wsX0_placeOf) := goodIn_app (goodIn_of _ (by decide +kernel)) ggX2_computeIfAbsent_X0_placeOf
set_option maxRecDepth 20000 in
theorem ggX2_computeIfAbsent_X0_valueIn : GoodIn wsX2_computeIfAbsent wsX0_valueIn := goodIn_r _ [19, 20, 21, 22, 23, 12, 24, 15, 25, 26, 27, 28, 14, 60, 61, 62, 63] (by decide +kernel) (by decide +kernel)
set_option maxRecDepth 20000 in
theorem gX2_computeIfAbsent_X0_valueIn : GoodIn wsX2_computeIfAbsent (wsV RX2 54 RX0 yX0_valueIn wsX0_valueIn) := goodIn_app (goodIn_of _ (by decide +kernel)) ggX2_computeIfAbsent_X0_valueIn
set_option maxRecDepth 20000 in
theorem ggX2_computeIfAbsent_X2_checkTableTakes : GoodIn wsX2_computeIfAbsent wsX2_checkTableTakes := goodIn_ca (goodIn_r _ [33, 34, 35, 1, 36, 37, 38, 6, 39, 8, 40, 41, 42, 12, 43, 14, 52, 53, 54, 55, 56, 57, 58, 59, 60, 61, 62, 63] (by decide +kernel) (by decide +kernel)) (goodIn_sub (fun _ h => List.mem_cons_of_mem _ (List.mem_append_right _ h)) (by decide +kernel))
set_option maxRecDepth 20000 in
theorem gX2_computeIfAbsent_X2_checkTableTakes : GoodIn wsX2_computeIfAbsent (wsV RX2 82 RX2 yX2_checkTableTakes wsX2_checkTableTakes) := goodIn_app (goodIn_of _ (by decide +kernel)) ggX2_computeIfAbsent_X2_checkTableTakes
set_option maxRecDepth 20000 in
theorem ggX2_computeIfAbsent_X0_append : GoodIn wsX2_computeIfAbsent wsX0_append := goodIn_r _ [47, 8, 20, 48, 49, 50, 12, 51, 14, 15, 60, 61, 62, 63] (by decide +kernel) (by decide +kernel)
set_option maxRecDepth 20000 in
theorem gX2_computeIfAbsent_X0_append : GoodIn wsX2_computeIfAbsent (wsV RX2 85 RX0 yX0_append wsX0_append) := goodIn_app (goodIn_of _ (by decide +kernel)) ggX2_computeIfAbsent_X0_append
theorem dX2_computeIfAbsent_0 : decode cX2_computeIfAbsent 0 = .ok (.aload_n 0, 1) := by decide +kernel
theorem dX2_computeIfAbsent_1 : decode cX2_computeIfAbsent 1 = .ok (.getfield 14, 3) := by decide +kernel
theorem dX2_computeIfAbsent_4 : decode cX2_computeIfAbsent 4 = .ok (.iload_n 1, 1) := by decide +kernel
theorem dX2_computeIfAbsent_5 : decode cX2_computeIfAbsent 5 = .ok (.invokevirtual 44, 3) := by decide +kernel
theorem dX2_computeIfAbsent_8 : decode cX2_computeIfAbsent 8 = .ok (.istore_n 2, 1) := by decide +kernel
theorem dX2_computeIfAbsent_9 : decode cX2_computeIfAbsent 9 = .ok (.iload_n 2, 1) := by decide +kernel
theorem dX2_computeIfAbsent_10 : decode cX2_computeIfAbsent 10 = .ok (.iconst (-1), 1) := by decide +kernel
theorem dX2_computeIfAbsent_11 : decode cX2_computeIfAbsent 11 = .ok (.if_icmp .eq 13, 3) := by decide +kernel
theorem dX2_computeIfAbsent_14 : decode cX2_computeIfAbsent 14 = .ok (.aload_n 0, 1) := by decide +kernel
theorem dX2_computeIfAbsent_15 : decode cX2_computeIfAbsent 15 = .ok (.getfield 14, 3) := by decide +kernel
theorem dX2_computeIfAbsent_18 : decode cX2_computeIfAbsent 18 = .ok (.iload_n 2, 1) := by decide +kernel
theorem dX2_computeIfAbsent_19 : decode cX2_computeIfAbsent 19 = .ok (.invokevirtual 54, 3) := by decide +kernel
theorem dX2_computeIfAbsent_22 : decode cX2_computeIfAbsent 22 = .ok (.i2l, 1) := by decide +kernel
theorem dX2_computeIfAbsent_23 : decode cX2_computeIfAbsent 23 = .ok (.lreturn, 1) := by decide +kernel
theorem dX2_computeIfAbsent_24 : decode cX2_computeIfAbsent 24 = .ok (.aload_n 0, 1) := by decide +kernel
theorem dX2_computeIfAbsent_25 : decode cX2_computeIfAbsent 25 = .ok (.iconst 1, 1) := by decide +kernel
theorem dX2_computeIfAbsent_26 : decode cX2_computeIfAbsent 26 = .ok (.invokevirtual 82, 3) := by decide +kernel
theorem dX2_computeIfAbsent_29 : decode cX2_computeIfAbsent 29 = .ok (.iload_n 1, 1) := by decide +kernel
theorem dX2_computeIfAbsent_30 : decode cX2_computeIfAbsent 30 = .ok (.bipush 7, 2) := by decide +kernel
theorem dX2_computeIfAbsent_32 : decode cX2_computeIfAbsent 32 = .ok (.irem, 1) := by decide +kernel
theorem dX2_computeIfAbsent_33 : decode cX2_computeIfAbsent 33 = .ok (.ifCond .ne 7, 3) := by decide +kernel
theorem dX2_computeIfAbsent_36 : decode cX2_computeIfAbsent 36 = .ok (.ldc2_w 52, 3) := by decide +kernel
theorem dX2_computeIfAbsent_39 : decode cX2_computeIfAbsent 39 = .ok (.lreturn, 1) := by decide +kernel
theorem dX2_computeIfAbsent_40 : decode cX2_computeIfAbsent 40 = .ok (.iconst 3, 1) := by decide +kernel
theorem dX2_computeIfAbsent_41 : decode cX2_computeIfAbsent 41 = .ok (.iload_n 1, 1) := by decide +kernel
theorem dX2_computeIfAbsent_42 : decode cX2_computeIfAbsent 42 = .ok (.imul, 1) := by decide +kernel
theorem dX2_computeIfAbsent_43 : decode cX2_computeIfAbsent 43 = .ok (.iconst 1, 1) := by decide +kernel
theorem dX2_computeIfAbsent_44 : decode cX2_computeIfAbsent 44 = .ok (.iadd, 1) := by decide +kernel
theorem dX2_computeIfAbsent_45 : decode cX2_computeIfAbsent 45 = .ok (.istore_n 3, 1) := by decide +kernel
theorem dX2_computeIfAbsent_46 : decode cX2_computeIfAbsent 46 = .ok (.aload_n 0, 1) := by decide +kernel
theorem dX2_computeIfAbsent_47 : decode cX2_computeIfAbsent 47 = .ok (.getfield 14, 3) := by decide +kernel
theorem dX2_computeIfAbsent_50 : decode cX2_computeIfAbsent 50 = .ok (.iload_n 1, 1) := by decide +kernel
theorem dX2_computeIfAbsent_51 : decode cX2_computeIfAbsent 51 = .ok (.iload_n 3, 1) := by decide +kernel
theorem dX2_computeIfAbsent_52 : decode cX2_computeIfAbsent 52 = .ok (.invokevirtual 85, 3) := by decide +kernel
theorem dX2_computeIfAbsent_55 : decode cX2_computeIfAbsent 55 = .ok (.iload_n 3, 1) := by decide +kernel
theorem dX2_computeIfAbsent_56 : decode cX2_computeIfAbsent 56 = .ok (.i2l, 1) := by decide +kernel
theorem dX2_computeIfAbsent_57 : decode cX2_computeIfAbsent 57 = .ok (.lreturn, 1) := by decide +kernel
set_option maxRecDepth 20000 in
theorem ggX2_computeIfPresent_X0_placeOf : GoodIn wsX2_computeIfPresent wsX0_placeOf := goodIn_r _ [7, 8, 9, 10, 11, 12, 13, 14, 15, 62, 63, 64, 65] (by decide +kernel) (by decide +kernel)
set_option maxRecDepth 20000 in
theorem gX2_computeIfPresent_X0_placeOf : GoodIn wsX2_computeIfPresent (wsV RX2 44 RX0 yX0_placeOf wsX0_placeOf) := goodIn_app (goodIn_of _ (by decide +kernel)) ggX2_computeIfPresent_X0_placeOf
set_option maxRecDepth 20000 in
theorem ggX2_computeIfPresent_X0_valueIn : GoodIn wsX2_computeIfPresent wsX0_valueIn := goodIn_r _ [19, 20, 21, 22, 23, 12, 24, 15, 25, 26, 27, 28, 14, 62, 63, 64, 65] (by decide +kernel) (by decide +kernel)
set_option maxRecDepth 20000 in
theorem gX2_computeIfPresent_X0_valueIn : GoodIn wsX2_computeIfPresent (wsV RX2 54 RX0 yX0_valueIn wsX0_valueIn) := goodIn_app (goodIn_of _ (by decide +kernel)) ggX2_computeIfPresent_X0_valueIn
set_option maxRecDepth 20000 in
theorem ggX2_computeIfPresent_X2_settle : GoodIn wsX2_computeIfPresent wsX2_settle := goodIn_r _ [33, 1, 2, 34, 35, 36, 6, 37, 8, 20, 38, 39, 40, 12, 41, 14, 15, 42, 43, 44, 45, 25, 26, 27, 28, 46, 47, 48, 49, 50, 51, 52, 53, 54, 55, 56, 57, 58, 59, 60, 61, 62, 63, 64, 65] (by decide +kernel) (by decide +kernel)
set_option maxRecDepth 20000 in
theorem gX2_computeIfPresent_X2_settle : GoodIn wsX2_computeIfPresent (wsV RX2 78 RX2 yX2_settle wsX2_settle) := goodIn_app (goodIn_of _ (by decide +kernel)) ggX2_computeIfPresent_X2_settle
theorem dX2_computeIfPresent_0 : decode cX2_computeIfPresent 0 = .ok (.aload_n 0, 1) := by decide +kernel
theorem dX2_computeIfPresent_1 : decode cX2_computeIfPresent 1 = .ok (.getfield 14, 3) := by decide +kernel
theorem dX2_computeIfPresent_4 : decode cX2_computeIfPresent 4 = .ok (.iload_n 1, 1) := by decide +kernel
theorem dX2_computeIfPresent_5 : decode cX2_computeIfPresent 5 = .ok (.invokevirtual 44, 3) := by decide +kernel
theorem dX2_computeIfPresent_8 : decode cX2_computeIfPresent 8 = .ok (.istore_n 3, 1) := by decide +kernel
theorem dX2_computeIfPresent_9 : decode cX2_computeIfPresent 9 = .ok (.iload_n 3, 1) := by decide +kernel
theorem dX2_computeIfPresent_10 : decode cX2_computeIfPresent 10 = .ok (.iconst (-1), 1) := by decide +kernel
theorem dX2_computeIfPresent_11 : decode cX2_computeIfPresent 11 = .ok (.if_icmp .ne 7, 3) := by decide +kernel
theorem dX2_computeIfPresent_14 : decode cX2_computeIfPresent 14 = .ok (.ldc2_w 52, 3) := by decide +kernel
theorem dX2_computeIfPresent_17 : decode cX2_computeIfPresent 17 = .ok (.lreturn, 1) := by decide +kernel
theorem dX2_computeIfPresent_18 : decode cX2_computeIfPresent 18 = .ok (.iconst 2, 1) := by decide +kernel
theorem dX2_computeIfPresent_19 : decode cX2_computeIfPresent 19 = .ok (.aload_n 0, 1) := by decide +kernel
theorem dX2_computeIfPresent_20 : decode cX2_computeIfPresent 20 = .ok (.getfield 14, 3) := by decide +kernel
theorem dX2_computeIfPresent_23 : decode cX2_computeIfPresent 23 = .ok (.iload_n 3, 1) := by decide +kernel
theorem dX2_computeIfPresent_24 : decode cX2_computeIfPresent 24 = .ok (.invokevirtual 54, 3) := by decide +kernel
theorem dX2_computeIfPresent_27 : decode cX2_computeIfPresent 27 = .ok (.imul, 1) := by decide +kernel
theorem dX2_computeIfPresent_28 : decode cX2_computeIfPresent 28 = .ok (.iload_n 2, 1) := by decide +kernel
theorem dX2_computeIfPresent_29 : decode cX2_computeIfPresent 29 = .ok (.isub, 1) := by decide +kernel
theorem dX2_computeIfPresent_30 : decode cX2_computeIfPresent 30 = .ok (.istore 4, 2) := by decide +kernel
theorem dX2_computeIfPresent_32 : decode cX2_computeIfPresent 32 = .ok (.aload_n 0, 1) := by decide +kernel
theorem dX2_computeIfPresent_33 : decode cX2_computeIfPresent 33 = .ok (.iload_n 3, 1) := by decide +kernel
theorem dX2_computeIfPresent_34 : decode cX2_computeIfPresent 34 = .ok (.iload 4, 2) := by decide +kernel
theorem dX2_computeIfPresent_36 : decode cX2_computeIfPresent 36 = .ok (.iload 4, 2) := by decide +kernel
theorem dX2_computeIfPresent_38 : decode cX2_computeIfPresent 38 = .ok (.bipush 10, 2) := by decide +kernel
theorem dX2_computeIfPresent_40 : decode cX2_computeIfPresent 40 = .ok (.irem, 1) := by decide +kernel
theorem dX2_computeIfPresent_41 : decode cX2_computeIfPresent 41 = .ok (.ifCond .ne 7, 3) := by decide +kernel
theorem dX2_computeIfPresent_44 : decode cX2_computeIfPresent 44 = .ok (.iconst 1, 1) := by decide +kernel
theorem dX2_computeIfPresent_45 : decode cX2_computeIfPresent 45 = .ok (.goto 4, 3) := by decide +kernel
theorem dX2_computeIfPresent_48 : decode cX2_computeIfPresent 48 = .ok (.iconst 0, 1) := by decide +kernel
theorem dX2_computeIfPresent_49 : decode cX2_computeIfPresent 49 = .ok (.invokevirtual 78, 3) := by decide +kernel
theorem dX2_computeIfPresent_52 : decode cX2_computeIfPresent 52 = .ok (.lreturn, 1) := by decide +kernel
set_option maxRecDepth 20000 in
theorem ggX2_fill_X2_newKeysOfFill : GoodIn wsX2_fill wsX2_newKeysOfFill := goodIn_r _ [8, 3, 9, 10, 7, 11, 12, 13, 14, 15, 16, 17, 18, 19, 20, 21, 22, 23, 24, 25, 26, 27, 28, 65, 66, 67, 68, 69, 70, 71, 72, 73, 74, 75, 76] (by decide +kernel) (by decide +kernel)
set_option maxRecDepth 20000 in
theorem gX2_fill_X2_newKeysOfFill : GoodIn wsX2_fill (wsV RX2 95 RX2 yX2_newKeysOfFill wsX2_newKeysOfFill) := goodIn_app (goodIn_of _ (by decide +kernel)) ggX2_fill_X2_newKeysOfFill
set_option maxRecDepth 20000 in
theorem ggX2_fill_X2_checkTableTakes : GoodIn wsX2_fill wsX2_checkTableTakes := goodIn_ca (goodIn_r _ [32, 33, 34, 3, 35, 36, 37, 15, 38, 17, 39, 40, 41, 21, 42, 27, 65, 66, 67, 68, 69, 70, 71, 72, 73, 74, 75, 76] (by decide +kernel) (by decide +kernel)) (goodIn_sub (fun _ h => List.mem_cons_of_mem _ (List.mem_append_right _ h)) (by decide +kernel))
set_option maxRecDepth 20000 in
theorem gX2_fill_X2_checkTableTakes : GoodIn wsX2_fill (wsV RX2 82 RX2 yX2_checkTableTakes wsX2_checkTableTakes) := goodIn_app (goodIn_of _ (by decide +kernel)) ggX2_fill_X2_checkTableTakes
set_option maxRecDepth 20000 in
theorem ggX2_fill_X0_setOrAppend : GoodIn wsX2_fill wsX0_setOrAppend := goodIn_r _ [46, 17, 47, 48, 24, 25, 21, 26, 27, 28, 49, 50, 51, 15, 52, 53, 54, 55, 56, 57, 58, 59, 60, 61, 62, 63, 64, 73, 74, 75, 76] (by decide +kernel) (by decide +kernel)
set_option maxRecDepth 20000 in
theorem gX2_fill_X0_setOrAppend : GoodIn wsX2_fill (wsV RX2 99 RX0 yX0_setOrAppend wsX0_setOrAppend) := goodIn_app (goodIn_of _ (by decide +kernel)) ggX2_fill_X0_setOrAppend
set_option maxRecDepth 20000 in
theorem ggX2_fill_X0_held : GoodIn wsX2_fill wsX0_held := goodIn_r _ [38, 17, 39, 40, 41, 21, 42, 27, 73, 74, 75, 76] (by decide +kernel) (by decide +kernel)
set_option maxRecDepth 20000 in
theorem gX2_fill_X0_held : GoodIn wsX2_fill (wsV RX2 102 RX0 yX0_held wsX0_held) := goodIn_app (goodIn_of _ (by decide +kernel)) ggX2_fill_X0_held
theorem dX2_fill_0 : decode cX2_fill 0 = .ok (.iload_n 3, 1) := by decide +kernel
theorem dX2_fill_1 : decode cX2_fill 1 = .ok (.ifCond .lt 9, 3) := by decide +kernel
theorem dX2_fill_4 : decode cX2_fill 4 = .ok (.iload_n 3, 1) := by decide +kernel
theorem dX2_fill_5 : decode cX2_fill 5 = .ok (.bipush 64, 2) := by decide +kernel
theorem dX2_fill_7 : decode cX2_fill 7 = .ok (.if_icmp .le 13, 3) := by decide +kernel
theorem dX2_fill_10 : decode cX2_fill 10 = .ok (.new 88, 3) := by decide +kernel
theorem dX2_fill_13 : decode cX2_fill 13 = .ok (.dup, 1) := by decide +kernel
theorem dX2_fill_14 : decode cX2_fill 14 = .ok (.ldc 90, 2) := by decide +kernel
theorem dX2_fill_16 : decode cX2_fill 16 = .ok (.invokespecial 92, 3) := by decide +kernel
theorem dX2_fill_19 : decode cX2_fill 19 = .ok (.athrow, 1) := by decide +kernel
theorem dX2_fill_20 : decode cX2_fill 20 = .ok (.aload_n 0, 1) := by decide +kernel
theorem dX2_fill_21 : decode cX2_fill 21 = .ok (.aload_n 0, 1) := by decide +kernel
theorem dX2_fill_22 : decode cX2_fill 22 = .ok (.iload_n 1, 1) := by decide +kernel
theorem dX2_fill_23 : decode cX2_fill 23 = .ok (.iload_n 2, 1) := by decide +kernel
theorem dX2_fill_24 : decode cX2_fill 24 = .ok (.iload_n 3, 1) := by decide +kernel
theorem dX2_fill_25 : decode cX2_fill 25 = .ok (.invokevirtual 95, 3) := by decide +kernel
theorem dX2_fill_28 : decode cX2_fill 28 = .ok (.invokevirtual 82, 3) := by decide +kernel
theorem dX2_fill_31 : decode cX2_fill 31 = .ok (.iconst 0, 1) := by decide +kernel
theorem dX2_fill_32 : decode cX2_fill 32 = .ok (.istore 4, 2) := by decide +kernel
theorem dX2_fill_34 : decode cX2_fill 34 = .ok (.iload 4, 2) := by decide +kernel
theorem dX2_fill_36 : decode cX2_fill 36 = .ok (.iload_n 3, 1) := by decide +kernel
theorem dX2_fill_37 : decode cX2_fill 37 = .ok (.if_icmp .ge 24, 3) := by decide +kernel
theorem dX2_fill_40 : decode cX2_fill 40 = .ok (.aload_n 0, 1) := by decide +kernel
theorem dX2_fill_41 : decode cX2_fill 41 = .ok (.getfield 14, 3) := by decide +kernel
theorem dX2_fill_44 : decode cX2_fill 44 = .ok (.iload_n 1, 1) := by decide +kernel
theorem dX2_fill_45 : decode cX2_fill 45 = .ok (.iload 4, 2) := by decide +kernel
theorem dX2_fill_47 : decode cX2_fill 47 = .ok (.iload_n 2, 1) := by decide +kernel
theorem dX2_fill_48 : decode cX2_fill 48 = .ok (.imul, 1) := by decide +kernel
theorem dX2_fill_49 : decode cX2_fill 49 = .ok (.iadd, 1) := by decide +kernel
theorem dX2_fill_50 : decode cX2_fill 50 = .ok (.iload 4, 2) := by decide +kernel
theorem dX2_fill_52 : decode cX2_fill 52 = .ok (.invokevirtual 99, 3) := by decide +kernel
theorem dX2_fill_55 : decode cX2_fill 55 = .ok (.iinc 4 1, 3) := by decide +kernel
theorem dX2_fill_58 : decode cX2_fill 58 = .ok (.goto (-24), 3) := by decide +kernel
theorem dX2_fill_61 : decode cX2_fill 61 = .ok (.aload_n 0, 1) := by decide +kernel
theorem dX2_fill_62 : decode cX2_fill 62 = .ok (.getfield 14, 3) := by decide +kernel
theorem dX2_fill_65 : decode cX2_fill 65 = .ok (.invokevirtual 102, 3) := by decide +kernel
theorem dX2_fill_68 : decode cX2_fill 68 = .ok (.ireturn, 1) := by decide +kernel
set_option maxRecDepth 20000 in
theorem ggX2_addToAll_X0_held : GoodIn wsX2_addToAll wsX0_held := goodIn_r _ [6, 7, 8, 9, 10, 11, 12, 13, 44, 45, 46, 47] (by decide +kernel) (by decide +kernel)
set_option maxRecDepth 20000 in
theorem gX2_addToAll_X0_held : GoodIn wsX2_addToAll (wsV RX2 102 RX0 yX0_held wsX0_held) := goodIn_app (goodIn_of _ (by decide +kernel)) ggX2_addToAll_X0_held
set_option maxRecDepth 20000 in
theorem ggX2_addToAll_X0_valueIn : GoodIn wsX2_addToAll wsX0_valueIn := goodIn_r _ [17, 18, 19, 20, 21, 11, 22, 23, 24, 25, 26, 27, 13, 44, 45, 46, 47] (by decide +kernel) (by decide +kernel)
set_option maxRecDepth 20000 in
theorem gX2_addToAll_X0_valueIn : GoodIn wsX2_addToAll (wsV RX2 54 RX0 yX0_valueIn wsX0_valueIn) := goodIn_app (goodIn_of _ (by decide +kernel)) ggX2_addToAll_X0_valueIn
set_option maxRecDepth 20000 in
theorem ggX2_addToAll_X0_setValue : GoodIn wsX2_addToAll wsX0_setValue := goodIn_r _ [31, 18, 32, 33, 34, 11, 35, 23, 24, 25, 26, 27, 13, 44, 45, 46, 47] (by decide +kernel) (by decide +kernel)
set_option maxRecDepth 20000 in
theorem gX2_addToAll_X0_setValue : GoodIn wsX2_addToAll (wsV RX2 57 RX0 yX0_setValue wsX0_setValue) := goodIn_app (goodIn_of _ (by decide +kernel)) ggX2_addToAll_X0_setValue
theorem dX2_addToAll_0 : decode cX2_addToAll 0 = .ok (.iconst 0, 1) := by decide +kernel
theorem dX2_addToAll_1 : decode cX2_addToAll 1 = .ok (.istore_n 2, 1) := by decide +kernel
theorem dX2_addToAll_2 : decode cX2_addToAll 2 = .ok (.iload_n 2, 1) := by decide +kernel
theorem dX2_addToAll_3 : decode cX2_addToAll 3 = .ok (.aload_n 0, 1) := by decide +kernel
theorem dX2_addToAll_4 : decode cX2_addToAll 4 = .ok (.getfield 14, 3) := by decide +kernel
theorem dX2_addToAll_7 : decode cX2_addToAll 7 = .ok (.invokevirtual 102, 3) := by decide +kernel
theorem dX2_addToAll_10 : decode cX2_addToAll 10 = .ok (.if_icmp .ge 27, 3) := by decide +kernel
theorem dX2_addToAll_13 : decode cX2_addToAll 13 = .ok (.aload_n 0, 1) := by decide +kernel
theorem dX2_addToAll_14 : decode cX2_addToAll 14 = .ok (.getfield 14, 3) := by decide +kernel
theorem dX2_addToAll_17 : decode cX2_addToAll 17 = .ok (.iload_n 2, 1) := by decide +kernel
theorem dX2_addToAll_18 : decode cX2_addToAll 18 = .ok (.aload_n 0, 1) := by decide +kernel
theorem dX2_addToAll_19 : decode cX2_addToAll 19 = .ok (.getfield 14, 3) := by decide +kernel
theorem dX2_addToAll_22 : decode cX2_addToAll 22 = .ok (.iload_n 2, 1) := by decide +kernel
theorem dX2_addToAll_23 : decode cX2_addToAll 23 = .ok (.invokevirtual 54, 3) := by decide +kernel
theorem dX2_addToAll_26 : decode cX2_addToAll 26 = .ok (.iload_n 1, 1) := by decide +kernel
theorem dX2_addToAll_27 : decode cX2_addToAll 27 = .ok (.iadd, 1) := by decide +kernel
theorem dX2_addToAll_28 : decode cX2_addToAll 28 = .ok (.invokevirtual 57, 3) := by decide +kernel
theorem dX2_addToAll_31 : decode cX2_addToAll 31 = .ok (.iinc 2 1, 3) := by decide +kernel
theorem dX2_addToAll_34 : decode cX2_addToAll 34 = .ok (.goto (-32), 3) := by decide +kernel
theorem dX2_addToAll_37 : decode cX2_addToAll 37 = .ok (.aload_n 0, 1) := by decide +kernel
theorem dX2_addToAll_38 : decode cX2_addToAll 38 = .ok (.getfield 14, 3) := by decide +kernel
theorem dX2_addToAll_41 : decode cX2_addToAll 41 = .ok (.invokevirtual 102, 3) := by decide +kernel
theorem dX2_addToAll_44 : decode cX2_addToAll 44 = .ok (.ireturn, 1) := by decide +kernel
set_option maxRecDepth 20000 in
theorem ggX2_dropBelow_X0_held : GoodIn wsX2_dropBelow wsX0_held := goodIn_r _ [6, 7, 8, 9, 10, 11, 12, 13, 48, 49, 50, 51] (by decide +kernel) (by decide +kernel)
set_option maxRecDepth 20000 in
theorem gX2_dropBelow_X0_held : GoodIn wsX2_dropBelow (wsV RX2 102 RX0 yX0_held wsX0_held) := goodIn_app (goodIn_of _ (by decide +kernel)) ggX2_dropBelow_X0_held
set_option maxRecDepth 20000 in
theorem ggX2_dropBelow_X0_valueIn : GoodIn wsX2_dropBelow wsX0_valueIn := goodIn_r _ [17, 18, 19, 20, 21, 11, 22, 23, 24, 25, 26, 27, 13, 48, 49, 50, 51] (by decide +kernel) (by decide +kernel)
set_option maxRecDepth 20000 in
theorem gX2_dropBelow_X0_valueIn : GoodIn wsX2_dropBelow (wsV RX2 54 RX0 yX0_valueIn wsX0_valueIn) := goodIn_app (goodIn_of _ (by decide +kernel)) ggX2_dropBelow_X0_valueIn
set_option maxRecDepth 20000 in
theorem ggX2_dropBelow_X0_cutOut : GoodIn wsX2_dropBelow wsX0_cutOut := goodIn_r _ [31, 7, 18, 32, 33, 34, 11, 35, 13, 23, 36, 37, 38, 39, 24, 25, 26, 27, 48, 49, 50, 51] (by decide +kernel) (by decide +kernel)
set_option maxRecDepth 20000 in
theorem gX2_dropBelow_X0_cutOut : GoodIn wsX2_dropBelow (wsV RX2 68 RX0 yX0_cutOut wsX0_cutOut) := goodIn_app (goodIn_of _ (by decide +kernel)) ggX2_dropBelow_X0_cutOut
theorem dX2_dropBelow_0 : decode cX2_dropBelow 0 = .ok (.aload_n 0, 1) := by decide +kernel
theorem dX2_dropBelow_1 : decode cX2_dropBelow 1 = .ok (.getfield 14, 3) := by decide +kernel
theorem dX2_dropBelow_4 : decode cX2_dropBelow 4 = .ok (.invokevirtual 102, 3) := by decide +kernel
theorem dX2_dropBelow_7 : decode cX2_dropBelow 7 = .ok (.istore_n 2, 1) := by decide +kernel
theorem dX2_dropBelow_8 : decode cX2_dropBelow 8 = .ok (.iload_n 2, 1) := by decide +kernel
theorem dX2_dropBelow_9 : decode cX2_dropBelow 9 = .ok (.iconst 1, 1) := by decide +kernel
theorem dX2_dropBelow_10 : decode cX2_dropBelow 10 = .ok (.isub, 1) := by decide +kernel
theorem dX2_dropBelow_11 : decode cX2_dropBelow 11 = .ok (.istore_n 3, 1) := by decide +kernel
theorem dX2_dropBelow_12 : decode cX2_dropBelow 12 = .ok (.iload_n 3, 1) := by decide +kernel
theorem dX2_dropBelow_13 : decode cX2_dropBelow 13 = .ok (.ifCond .lt 29, 3) := by decide +kernel
theorem dX2_dropBelow_16 : decode cX2_dropBelow 16 = .ok (.aload_n 0, 1) := by decide +kernel
theorem dX2_dropBelow_17 : decode cX2_dropBelow 17 = .ok (.getfield 14, 3) := by decide +kernel
theorem dX2_dropBelow_20 : decode cX2_dropBelow 20 = .ok (.iload_n 3, 1) := by decide +kernel
theorem dX2_dropBelow_21 : decode cX2_dropBelow 21 = .ok (.invokevirtual 54, 3) := by decide +kernel
theorem dX2_dropBelow_24 : decode cX2_dropBelow 24 = .ok (.iload_n 1, 1) := by decide +kernel
theorem dX2_dropBelow_25 : decode cX2_dropBelow 25 = .ok (.if_icmp .ge 11, 3) := by decide +kernel
theorem dX2_dropBelow_28 : decode cX2_dropBelow 28 = .ok (.aload_n 0, 1) := by decide +kernel
theorem dX2_dropBelow_29 : decode cX2_dropBelow 29 = .ok (.getfield 14, 3) := by decide +kernel
theorem dX2_dropBelow_32 : decode cX2_dropBelow 32 = .ok (.iload_n 3, 1) := by decide +kernel
theorem dX2_dropBelow_33 : decode cX2_dropBelow 33 = .ok (.invokevirtual 68, 3) := by decide +kernel
theorem dX2_dropBelow_36 : decode cX2_dropBelow 36 = .ok (.iinc 3 (-1), 3) := by decide +kernel
theorem dX2_dropBelow_39 : decode cX2_dropBelow 39 = .ok (.goto (-27), 3) := by decide +kernel
theorem dX2_dropBelow_42 : decode cX2_dropBelow 42 = .ok (.iload_n 2, 1) := by decide +kernel
theorem dX2_dropBelow_43 : decode cX2_dropBelow 43 = .ok (.aload_n 0, 1) := by decide +kernel
theorem dX2_dropBelow_44 : decode cX2_dropBelow 44 = .ok (.getfield 14, 3) := by decide +kernel
theorem dX2_dropBelow_47 : decode cX2_dropBelow 47 = .ok (.invokevirtual 102, 3) := by decide +kernel
theorem dX2_dropBelow_50 : decode cX2_dropBelow 50 = .ok (.isub, 1) := by decide +kernel
theorem dX2_dropBelow_51 : decode cX2_dropBelow 51 = .ok (.ireturn, 1) := by decide +kernel
set_option maxRecDepth 20000 in
theorem ggX2_putShelf_X2_newKeysOfShelf : GoodIn wsX2_putShelf wsX2_newKeysOfShelf := goodIn_r _ [7, 1, 2, 8, 9, 10, 11, 12, 13, 14, 15, 16, 17, 18, 19, 20, 21, 22, 23, 24, 25, 26, 27, 28, 29, 30, 31, 32, 33, 34, 35, 36, 37, 38, 39, 40, 41, 42, 43, 44, 73, 74, 75, 76, 77, 78, 79, 80, 81, 82, 83, 84] (by decide +kernel) (by decide +kernel)
set_option maxRecDepth 20000 in
theorem gX2_putShelf_X2_newKeysOfShelf : GoodIn wsX2_putShelf (wsV RX2 106 RX2 yX2_newKeysOfShelf wsX2_newKeysOfShelf) := goodIn_app (goodIn_of _ (by decide +kernel)) ggX2_putShelf_X2_newKeysOfShelf
set_option maxRecDepth 20000 in
theorem ggX2_putShelf_X2_checkTableTakes : GoodIn wsX2_putShelf wsX2_checkTableTakes := goodIn_ca (goodIn_r _ [48, 49, 50, 2, 8, 9, 10, 11, 12, 13, 14, 15, 16, 17, 18, 19, 73, 74, 75, 76, 77, 78, 79, 80, 81, 82, 83, 84] (by decide +kernel) (by decide +kernel)) (goodIn_sub (fun _ h => List.mem_cons_of_mem _ (List.mem_append_right _ h)) (by decide +kernel))
set_option maxRecDepth 20000 in
theorem gX2_putShelf_X2_checkTableTakes : GoodIn wsX2_putShelf (wsV RX2 82 RX2 yX2_checkTableTakes wsX2_checkTableTakes) := goodIn_app (goodIn_of _ (by decide +kernel)) ggX2_putShelf_X2_checkTableTakes
set_option maxRecDepth 20000 in
theorem ggX2_putShelf_X0_held : GoodIn wsX2_putShelf wsX0_held := goodIn_r _ [12, 13, 14, 15, 16, 17, 18, 19, 81, 82, 83, 84] (by decide +kernel) (by decide +kernel)
set_option maxRecDepth 20000 in
theorem gX2_putShelf_X0_held : GoodIn wsX2_putShelf (wsV RX2 102 RX0 yX0_held wsX0_held) := goodIn_app (goodIn_of _ (by decide +kernel)) ggX2_putShelf_X0_held
set_option maxRecDepth 20000 in
theorem ggX2_putShelf_X0_keyIn : GoodIn wsX2_putShelf wsX0_keyIn := goodIn_r _ [23, 13, 24, 25, 26, 17, 27, 28, 29, 30, 31, 32, 19, 81, 82, 83, 84] (by decide +kernel) (by decide +kernel)
set_option maxRecDepth 20000 in
theorem gX2_putShelf_X0_keyIn : GoodIn wsX2_putShelf (wsV RX2 109 RX0 yX0_keyIn wsX0_keyIn) := goodIn_app (goodIn_of _ (by decide +kernel)) ggX2_putShelf_X0_keyIn
set_option maxRecDepth 20000 in
theorem ggX2_putShelf_X0_valueIn : GoodIn wsX2_putShelf wsX0_valueIn := goodIn_r _ [54, 55, 24, 25, 26, 17, 27, 28, 29, 30, 31, 32, 19, 81, 82, 83, 84] (by decide +kernel) (by decide +kernel)
set_option maxRecDepth 20000 in
theorem gX2_putShelf_X0_valueIn : GoodIn wsX2_putShelf (wsV RX2 54 RX0 yX0_valueIn wsX0_valueIn) := goodIn_app (goodIn_of _ (by decide +kernel)) ggX2_putShelf_X0_valueIn
set_option maxRecDepth 20000 in
theorem ggX2_putShelf_X0_setOrAppend : GoodIn wsX2_putShelf wsX0_setOrAppend := goodIn_r _ [59, 13, 55, 60, 42, 43, 17, 44, 19, 28, 61, 62, 63, 11, 64, 65, 66, 67, 68, 69, 70, 71, 72, 29, 30, 31, 32, 81, 82, 83, 84] (by decide +kernel) (by decide +kernel)
set_option maxRecDepth 20000 in
theorem gX2_putShelf_X0_setOrAppend : GoodIn wsX2_putShelf (wsV RX2 99 RX0 yX0_setOrAppend wsX0_setOrAppend) := goodIn_app (goodIn_of _ (by decide +kernel)) ggX2_putShelf_X0_setOrAppend
theorem dX2_putShelf_0 : decode cX2_putShelf 0 = .ok (.aload_n 0, 1) := by decide +kernel
theorem dX2_putShelf_1 : decode cX2_putShelf 1 = .ok (.aload_n 0, 1) := by decide +kernel
theorem dX2_putShelf_2 : decode cX2_putShelf 2 = .ok (.invokevirtual 106, 3) := by decide +kernel
theorem dX2_putShelf_5 : decode cX2_putShelf 5 = .ok (.invokevirtual 82, 3) := by decide +kernel
theorem dX2_putShelf_8 : decode cX2_putShelf 8 = .ok (.iconst 0, 1) := by decide +kernel
theorem dX2_putShelf_9 : decode cX2_putShelf 9 = .ok (.istore_n 1, 1) := by decide +kernel
theorem dX2_putShelf_10 : decode cX2_putShelf 10 = .ok (.iload_n 1, 1) := by decide +kernel
theorem dX2_putShelf_11 : decode cX2_putShelf 11 = .ok (.aload_n 0, 1) := by decide +kernel
theorem dX2_putShelf_12 : decode cX2_putShelf 12 = .ok (.getfield 28, 3) := by decide +kernel
theorem dX2_putShelf_15 : decode cX2_putShelf 15 = .ok (.invokevirtual 102, 3) := by decide +kernel
theorem dX2_putShelf_18 : decode cX2_putShelf 18 = .ok (.if_icmp .ge 32, 3) := by decide +kernel
theorem dX2_putShelf_21 : decode cX2_putShelf 21 = .ok (.aload_n 0, 1) := by decide +kernel
theorem dX2_putShelf_22 : decode cX2_putShelf 22 = .ok (.getfield 14, 3) := by decide +kernel
theorem dX2_putShelf_25 : decode cX2_putShelf 25 = .ok (.aload_n 0, 1) := by decide +kernel
theorem dX2_putShelf_26 : decode cX2_putShelf 26 = .ok (.getfield 28, 3) := by decide +kernel
theorem dX2_putShelf_29 : decode cX2_putShelf 29 = .ok (.iload_n 1, 1) := by decide +kernel
theorem dX2_putShelf_30 : decode cX2_putShelf 30 = .ok (.invokevirtual 109, 3) := by decide +kernel
theorem dX2_putShelf_33 : decode cX2_putShelf 33 = .ok (.aload_n 0, 1) := by decide +kernel
theorem dX2_putShelf_34 : decode cX2_putShelf 34 = .ok (.getfield 28, 3) := by decide +kernel
theorem dX2_putShelf_37 : decode cX2_putShelf 37 = .ok (.iload_n 1, 1) := by decide +kernel
theorem dX2_putShelf_38 : decode cX2_putShelf 38 = .ok (.invokevirtual 54, 3) := by decide +kernel
theorem dX2_putShelf_41 : decode cX2_putShelf 41 = .ok (.invokevirtual 99, 3) := by decide +kernel
theorem dX2_putShelf_44 : decode cX2_putShelf 44 = .ok (.iinc 1 1, 3) := by decide +kernel
theorem dX2_putShelf_47 : decode cX2_putShelf 47 = .ok (.goto (-37), 3) := by decide +kernel
theorem dX2_putShelf_50 : decode cX2_putShelf 50 = .ok (.aload_n 0, 1) := by decide +kernel
theorem dX2_putShelf_51 : decode cX2_putShelf 51 = .ok (.getfield 14, 3) := by decide +kernel
theorem dX2_putShelf_54 : decode cX2_putShelf 54 = .ok (.invokevirtual 102, 3) := by decide +kernel
theorem dX2_putShelf_57 : decode cX2_putShelf 57 = .ok (.ireturn, 1) := by decide +kernel
set_option maxRecDepth 20000 in
theorem ggX2_size_X0_held : GoodIn wsX2_size wsX0_held := goodIn_r _ [6, 7, 8, 9, 10, 11, 12, 13, 22, 23, 24, 25] (by decide +kernel) (by decide +kernel)
set_option maxRecDepth 20000 in
theorem gX2_size_X0_held : GoodIn wsX2_size (wsV RX2 102 RX0 yX0_held wsX0_held) := goodIn_app (goodIn_of _ (by decide +kernel)) ggX2_size_X0_held
theorem dX2_size_0 : decode cX2_size 0 = .ok (.aload_n 0, 1) := by decide +kernel
theorem dX2_size_1 : decode cX2_size 1 = .ok (.getfield 14, 3) := by decide +kernel
theorem dX2_size_4 : decode cX2_size 4 = .ok (.invokevirtual 102, 3) := by decide +kernel
theorem dX2_size_7 : decode cX2_size 7 = .ok (.ireturn, 1) := by decide +kernel
set_option maxRecDepth 20000 in
theorem ggX2_clear_X0_held : GoodIn wsX2_clear wsX0_held := goodIn_r _ [6, 7, 8, 9, 10, 11, 12, 13, 31, 32, 33, 34] (by decide +kernel) (by decide +kernel)
set_option maxRecDepth 20000 in
theorem gX2_clear_X0_held : GoodIn wsX2_clear (wsV RX2 102 RX0 yX0_held wsX0_held) := goodIn_app (goodIn_of _ (by decide +kernel)) ggX2_clear_X0_held
set_option maxRecDepth 20000 in
theorem ggX2_clear_X0_empty : GoodIn wsX2_clear wsX0_empty := goodIn_r _ [17, 7, 18, 19, 20, 21, 11, 22, 13, 31, 32, 33, 34] (by decide +kernel) (by decide +kernel)
set_option maxRecDepth 20000 in
theorem gX2_clear_X0_empty : GoodIn wsX2_clear (wsV RX2 112 RX0 yX0_empty wsX0_empty) := goodIn_app (goodIn_of _ (by decide +kernel)) ggX2_clear_X0_empty
theorem dX2_clear_0 : decode cX2_clear 0 = .ok (.aload_n 0, 1) := by decide +kernel
theorem dX2_clear_1 : decode cX2_clear 1 = .ok (.getfield 14, 3) := by decide +kernel
theorem dX2_clear_4 : decode cX2_clear 4 = .ok (.invokevirtual 102, 3) := by decide +kernel
theorem dX2_clear_7 : decode cX2_clear 7 = .ok (.istore_n 1, 1) := by decide +kernel
theorem dX2_clear_8 : decode cX2_clear 8 = .ok (.aload_n 0, 1) := by decide +kernel
theorem dX2_clear_9 : decode cX2_clear 9 = .ok (.getfield 14, 3) := by decide +kernel
theorem dX2_clear_12 : decode cX2_clear 12 = .ok (.invokevirtual 112, 3) := by decide +kernel
theorem dX2_clear_15 : decode cX2_clear 15 = .ok (.iload_n 1, 1) := by decide +kernel
theorem dX2_clear_16 : decode cX2_clear 16 = .ok (.ireturn, 1) := by decide +kernel
set_option maxRecDepth 20000 in
theorem ggX2_sumOfKeys_X0_held : GoodIn wsX2_sumOfKeys wsX0_held := goodIn_r _ [6, 7, 8, 9, 10, 11, 12, 13, 35, 36, 37, 38] (by decide +kernel) (by decide +kernel)
set_option maxRecDepth 20000 in
theorem gX2_sumOfKeys_X0_held : GoodIn wsX2_sumOfKeys (wsV RX2 102 RX0 yX0_held wsX0_held) := goodIn_app (goodIn_of _ (by decide +kernel)) ggX2_sumOfKeys_X0_held
set_option maxRecDepth 20000 in
theorem ggX2_sumOfKeys_X0_keyIn : GoodIn wsX2_sumOfKeys wsX0_keyIn := goodIn_r _ [17, 7, 18, 19, 20, 11, 21, 22, 23, 24, 25, 26, 13, 35, 36, 37, 38] (by decide +kernel) (by decide +kernel)
set_option maxRecDepth 20000 in
theorem gX2_sumOfKeys_X0_keyIn : GoodIn wsX2_sumOfKeys (wsV RX2 109 RX0 yX0_keyIn wsX0_keyIn) := goodIn_app (goodIn_of _ (by decide +kernel)) ggX2_sumOfKeys_X0_keyIn
theorem dX2_sumOfKeys_0 : decode cX2_sumOfKeys 0 = .ok (.lconst 0, 1) := by decide +kernel
theorem dX2_sumOfKeys_1 : decode cX2_sumOfKeys 1 = .ok (.lstore_n 1, 1) := by decide +kernel
theorem dX2_sumOfKeys_2 : decode cX2_sumOfKeys 2 = .ok (.iconst 0, 1) := by decide +kernel
theorem dX2_sumOfKeys_3 : decode cX2_sumOfKeys 3 = .ok (.istore_n 3, 1) := by decide +kernel
theorem dX2_sumOfKeys_4 : decode cX2_sumOfKeys 4 = .ok (.iload_n 3, 1) := by decide +kernel
theorem dX2_sumOfKeys_5 : decode cX2_sumOfKeys 5 = .ok (.aload_n 0, 1) := by decide +kernel
theorem dX2_sumOfKeys_6 : decode cX2_sumOfKeys 6 = .ok (.getfield 14, 3) := by decide +kernel
theorem dX2_sumOfKeys_9 : decode cX2_sumOfKeys 9 = .ok (.invokevirtual 102, 3) := by decide +kernel
theorem dX2_sumOfKeys_12 : decode cX2_sumOfKeys 12 = .ok (.if_icmp .ge 21, 3) := by decide +kernel
theorem dX2_sumOfKeys_15 : decode cX2_sumOfKeys 15 = .ok (.lload_n 1, 1) := by decide +kernel
theorem dX2_sumOfKeys_16 : decode cX2_sumOfKeys 16 = .ok (.aload_n 0, 1) := by decide +kernel
theorem dX2_sumOfKeys_17 : decode cX2_sumOfKeys 17 = .ok (.getfield 14, 3) := by decide +kernel
theorem dX2_sumOfKeys_20 : decode cX2_sumOfKeys 20 = .ok (.iload_n 3, 1) := by decide +kernel
theorem dX2_sumOfKeys_21 : decode cX2_sumOfKeys 21 = .ok (.invokevirtual 109, 3) := by decide +kernel
theorem dX2_sumOfKeys_24 : decode cX2_sumOfKeys 24 = .ok (.i2l, 1) := by decide +kernel
theorem dX2_sumOfKeys_25 : decode cX2_sumOfKeys 25 = .ok (.ladd, 1) := by decide +kernel
theorem dX2_sumOfKeys_26 : decode cX2_sumOfKeys 26 = .ok (.lstore_n 1, 1) := by decide +kernel
theorem dX2_sumOfKeys_27 : decode cX2_sumOfKeys 27 = .ok (.iinc 3 1, 3) := by decide +kernel
theorem dX2_sumOfKeys_30 : decode cX2_sumOfKeys 30 = .ok (.goto (-26), 3) := by decide +kernel
theorem dX2_sumOfKeys_33 : decode cX2_sumOfKeys 33 = .ok (.lload_n 1, 1) := by decide +kernel
theorem dX2_sumOfKeys_34 : decode cX2_sumOfKeys 34 = .ok (.lreturn, 1) := by decide +kernel
set_option maxRecDepth 20000 in
theorem ggX2_sumOfValues_X0_held : GoodIn wsX2_sumOfValues wsX0_held := goodIn_r _ [6, 7, 8, 9, 10, 11, 12, 13, 36, 37, 38, 39] (by decide +kernel) (by decide +kernel)
set_option maxRecDepth 20000 in
theorem gX2_sumOfValues_X0_held : GoodIn wsX2_sumOfValues (wsV RX2 102 RX0 yX0_held wsX0_held) := goodIn_app (goodIn_of _ (by decide +kernel)) ggX2_sumOfValues_X0_held
set_option maxRecDepth 20000 in
theorem ggX2_sumOfValues_X0_valueIn : GoodIn wsX2_sumOfValues wsX0_valueIn := goodIn_r _ [17, 18, 19, 20, 21, 11, 22, 23, 24, 25, 26, 27, 13, 36, 37, 38, 39] (by decide +kernel) (by decide +kernel)
set_option maxRecDepth 20000 in
theorem gX2_sumOfValues_X0_valueIn : GoodIn wsX2_sumOfValues (wsV RX2 54 RX0 yX0_valueIn wsX0_valueIn) := goodIn_app (goodIn_of _ (by decide +kernel)) ggX2_sumOfValues_X0_valueIn
theorem dX2_sumOfValues_0 : decode cX2_sumOfValues 0 = .ok (.lconst 0, 1) := by decide +kernel
theorem dX2_sumOfValues_1 : decode cX2_sumOfValues 1 = .ok (.lstore_n 1, 1) := by decide +kernel
theorem dX2_sumOfValues_2 : decode cX2_sumOfValues 2 = .ok (.iconst 0, 1) := by decide +kernel
theorem dX2_sumOfValues_3 : decode cX2_sumOfValues 3 = .ok (.istore_n 3, 1) := by decide +kernel
theorem dX2_sumOfValues_4 : decode cX2_sumOfValues 4 = .ok (.iload_n 3, 1) := by decide +kernel
theorem dX2_sumOfValues_5 : decode cX2_sumOfValues 5 = .ok (.aload_n 0, 1) := by decide +kernel
theorem dX2_sumOfValues_6 : decode cX2_sumOfValues 6 = .ok (.getfield 14, 3) := by decide +kernel
theorem dX2_sumOfValues_9 : decode cX2_sumOfValues 9 = .ok (.invokevirtual 102, 3) := by decide +kernel
theorem dX2_sumOfValues_12 : decode cX2_sumOfValues 12 = .ok (.if_icmp .ge 21, 3) := by decide +kernel
theorem dX2_sumOfValues_15 : decode cX2_sumOfValues 15 = .ok (.lload_n 1, 1) := by decide +kernel
theorem dX2_sumOfValues_16 : decode cX2_sumOfValues 16 = .ok (.aload_n 0, 1) := by decide +kernel
theorem dX2_sumOfValues_17 : decode cX2_sumOfValues 17 = .ok (.getfield 14, 3) := by decide +kernel
theorem dX2_sumOfValues_20 : decode cX2_sumOfValues 20 = .ok (.iload_n 3, 1) := by decide +kernel
theorem dX2_sumOfValues_21 : decode cX2_sumOfValues 21 = .ok (.invokevirtual 54, 3) := by decide +kernel
theorem dX2_sumOfValues_24 : decode cX2_sumOfValues 24 = .ok (.i2l, 1) := by decide +kernel
theorem dX2_sumOfValues_25 : decode cX2_sumOfValues 25 = .ok (.ladd, 1) := by decide +kernel
theorem dX2_sumOfValues_26 : decode cX2_sumOfValues 26 = .ok (.lstore_n 1, 1) := by decide +kernel
theorem dX2_sumOfValues_27 : decode cX2_sumOfValues 27 = .ok (.iinc 3 1, 3) := by decide +kernel
theorem dX2_sumOfValues_30 : decode cX2_sumOfValues 30 = .ok (.goto (-26), 3) := by decide +kernel
theorem dX2_sumOfValues_33 : decode cX2_sumOfValues 33 = .ok (.lload_n 1, 1) := by decide +kernel
theorem dX2_sumOfValues_34 : decode cX2_sumOfValues 34 = .ok (.lreturn, 1) := by decide +kernel
set_option maxRecDepth 20000 in
theorem ggX2_sum_X0_held : GoodIn wsX2_sum wsX0_held := goodIn_r _ [8, 9, 10, 11, 12, 13, 14, 15, 42, 43, 44, 45] (by decide +kernel) (by decide +kernel)
set_option maxRecDepth 20000 in
theorem gX2_sum_X0_held : GoodIn wsX2_sum (wsV RX2 102 RX0 yX0_held wsX0_held) := goodIn_app (goodIn_of _ (by decide +kernel)) ggX2_sum_X0_held
set_option maxRecDepth 20000 in
theorem ggX2_sum_X0_keyIn : GoodIn wsX2_sum wsX0_keyIn := goodIn_r _ [19, 9, 20, 21, 22, 13, 23, 24, 25, 26, 27, 28, 15, 42, 43, 44, 45] (by decide +kernel) (by decide +kernel)
set_option maxRecDepth 20000 in
theorem gX2_sum_X0_keyIn : GoodIn wsX2_sum (wsV RX2 109 RX0 yX0_keyIn wsX0_keyIn) := goodIn_app (goodIn_of _ (by decide +kernel)) ggX2_sum_X0_keyIn
set_option maxRecDepth 20000 in
theorem ggX2_sum_X0_valueIn : GoodIn wsX2_sum wsX0_valueIn := goodIn_r _ [32, 33, 20, 21, 22, 13, 23, 24, 25, 26, 27, 28, 15, 42, 43, 44, 45] (by decide +kernel) (by decide +kernel)
set_option maxRecDepth 20000 in
theorem gX2_sum_X0_valueIn : GoodIn wsX2_sum (wsV RX2 54 RX0 yX0_valueIn wsX0_valueIn) := goodIn_app (goodIn_of _ (by decide +kernel)) ggX2_sum_X0_valueIn
theorem dX2_sum_0 : decode cX2_sum 0 = .ok (.lconst 0, 1) := by decide +kernel
theorem dX2_sum_1 : decode cX2_sum 1 = .ok (.lstore_n 1, 1) := by decide +kernel
theorem dX2_sum_2 : decode cX2_sum 2 = .ok (.iconst 0, 1) := by decide +kernel
theorem dX2_sum_3 : decode cX2_sum 3 = .ok (.istore_n 3, 1) := by decide +kernel
theorem dX2_sum_4 : decode cX2_sum 4 = .ok (.iload_n 3, 1) := by decide +kernel
theorem dX2_sum_5 : decode cX2_sum 5 = .ok (.aload_n 0, 1) := by decide +kernel
theorem dX2_sum_6 : decode cX2_sum 6 = .ok (.getfield 14, 3) := by decide +kernel
theorem dX2_sum_9 : decode cX2_sum 9 = .ok (.invokevirtual 102, 3) := by decide +kernel
theorem dX2_sum_12 : decode cX2_sum 12 = .ok (.if_icmp .ge 50, 3) := by decide +kernel
theorem dX2_sum_15 : decode cX2_sum 15 = .ok (.aload_n 0, 1) := by decide +kernel
theorem dX2_sum_16 : decode cX2_sum 16 = .ok (.getfield 14, 3) := by decide +kernel
theorem dX2_sum_19 : decode cX2_sum 19 = .ok (.iload_n 3, 1) := by decide +kernel
theorem dX2_sum_20 : decode cX2_sum 20 = .ok (.invokevirtual 109, 3) := by decide +kernel
theorem dX2_sum_23 : decode cX2_sum 23 = .ok (.i2l, 1) := by decide +kernel
theorem dX2_sum_24 : decode cX2_sum 24 = .ok (.lstore 4, 2) := by decide +kernel
theorem dX2_sum_26 : decode cX2_sum 26 = .ok (.aload_n 0, 1) := by decide +kernel
theorem dX2_sum_27 : decode cX2_sum 27 = .ok (.getfield 14, 3) := by decide +kernel
theorem dX2_sum_30 : decode cX2_sum 30 = .ok (.iload_n 3, 1) := by decide +kernel
theorem dX2_sum_31 : decode cX2_sum 31 = .ok (.invokevirtual 54, 3) := by decide +kernel
theorem dX2_sum_34 : decode cX2_sum 34 = .ok (.i2l, 1) := by decide +kernel
theorem dX2_sum_35 : decode cX2_sum 35 = .ok (.lstore 6, 2) := by decide +kernel
theorem dX2_sum_37 : decode cX2_sum 37 = .ok (.lload_n 1, 1) := by decide +kernel
theorem dX2_sum_38 : decode cX2_sum 38 = .ok (.ldc2_w 115, 3) := by decide +kernel
theorem dX2_sum_41 : decode cX2_sum 41 = .ok (.lload 4, 2) := by decide +kernel
theorem dX2_sum_43 : decode cX2_sum 43 = .ok (.lmul, 1) := by decide +kernel
theorem dX2_sum_44 : decode cX2_sum 44 = .ok (.lload 6, 2) := by decide +kernel
theorem dX2_sum_46 : decode cX2_sum 46 = .ok (.ladd, 1) := by decide +kernel
theorem dX2_sum_47 : decode cX2_sum 47 = .ok (.lload 6, 2) := by decide +kernel
theorem dX2_sum_49 : decode cX2_sum 49 = .ok (.ldc2_w 117, 3) := by decide +kernel
theorem dX2_sum_52 : decode cX2_sum 52 = .ok (.lsub, 1) := by decide +kernel
theorem dX2_sum_53 : decode cX2_sum 53 = .ok (.lmul, 1) := by decide +kernel
theorem dX2_sum_54 : decode cX2_sum 54 = .ok (.ladd, 1) := by decide +kernel
theorem dX2_sum_55 : decode cX2_sum 55 = .ok (.lstore_n 1, 1) := by decide +kernel
theorem dX2_sum_56 : decode cX2_sum 56 = .ok (.iinc 3 1, 3) := by decide +kernel
theorem dX2_sum_59 : decode cX2_sum 59 = .ok (.goto (-55), 3) := by decide +kernel
theorem dX2_sum_62 : decode cX2_sum 62 = .ok (.lload_n 1, 1) := by decide +kernel
theorem dX2_sum_63 : decode cX2_sum 63 = .ok (.lreturn, 1) := by decide +kernel
set_option maxRecDepth 20000 in
theorem ggX2_checkTableTakes_X0_held : GoodIn wsX2_checkTableTakes wsX0_held := goodIn_r _ [8, 9, 10, 11, 12, 13, 14, 15, 24, 25, 26, 27] (by decide +kernel) (by decide +kernel)
set_option maxRecDepth 20000 in
theorem gX2_checkTableTakes_X0_held : GoodIn wsX2_checkTableTakes (wsV RX2 102 RX0 yX0_held wsX0_held) := goodIn_app (goodIn_of _ (by decide +kernel)) ggX2_checkTableTakes_X0_held
theorem dX2_checkTableTakes_0 : decode cX2_checkTableTakes 0 = .ok (.iload_n 1, 1) := by decide +kernel
theorem dX2_checkTableTakes_1 : decode cX2_checkTableTakes 1 = .ok (.sipush 200, 3) := by decide +kernel
theorem dX2_checkTableTakes_4 : decode cX2_checkTableTakes 4 = .ok (.aload_n 0, 1) := by decide +kernel
theorem dX2_checkTableTakes_5 : decode cX2_checkTableTakes 5 = .ok (.getfield 14, 3) := by decide +kernel
theorem dX2_checkTableTakes_8 : decode cX2_checkTableTakes 8 = .ok (.invokevirtual 102, 3) := by decide +kernel
theorem dX2_checkTableTakes_11 : decode cX2_checkTableTakes 11 = .ok (.isub, 1) := by decide +kernel
theorem dX2_checkTableTakes_12 : decode cX2_checkTableTakes 12 = .ok (.if_icmp .le 13, 3) := by decide +kernel
theorem dX2_checkTableTakes_15 : decode cX2_checkTableTakes 15 = .ok (.new 119, 3) := by decide +kernel
theorem dX2_checkTableTakes_18 : decode cX2_checkTableTakes 18 = .ok (.dup, 1) := by decide +kernel
theorem dX2_checkTableTakes_19 : decode cX2_checkTableTakes 19 = .ok (.ldc 121, 2) := by decide +kernel
theorem dX2_checkTableTakes_21 : decode cX2_checkTableTakes 21 = .ok (.invokespecial 123, 3) := by decide +kernel
theorem dX2_checkTableTakes_24 : decode cX2_checkTableTakes 24 = .ok (.athrow, 1) := by decide +kernel
theorem dX2_checkTableTakes_25 : decode cX2_checkTableTakes 25 = .ok (.return_, 1) := by decide +kernel
set_option maxRecDepth 20000 in
theorem ggX2_addToTable_X2_checkTableTakes : GoodIn wsX2_addToTable wsX2_checkTableTakes := goodIn_ca (goodIn_r _ [6, 7, 8, 1, 9, 10, 11, 12, 13, 14, 15, 16, 17, 18, 19, 20, 31, 32, 33, 34, 35, 36, 37, 38, 39, 40, 41, 42] (by decide +kernel) (by decide +kernel)) (goodIn_sub (fun _ h => List.mem_cons_of_mem _ (List.mem_append_right _ h)) (by decide +kernel))
set_option maxRecDepth 20000 in
theorem gX2_addToTable_X2_checkTableTakes : GoodIn wsX2_addToTable (wsV RX2 82 RX2 yX2_checkTableTakes wsX2_checkTableTakes) := goodIn_app (goodIn_of _ (by decide +kernel)) ggX2_addToTable_X2_checkTableTakes
set_option maxRecDepth 20000 in
theorem ggX2_addToTable_X0_append : GoodIn wsX2_addToTable wsX0_append := goodIn_r _ [24, 14, 25, 26, 27, 28, 18, 29, 20, 30, 39, 40, 41, 42] (by decide +kernel) (by decide +kernel)
set_option maxRecDepth 20000 in
theorem gX2_addToTable_X0_append : GoodIn wsX2_addToTable (wsV RX2 85 RX0 yX0_append wsX0_append) := goodIn_app (goodIn_of _ (by decide +kernel)) ggX2_addToTable_X0_append
theorem dX2_addToTable_0 : decode cX2_addToTable 0 = .ok (.aload_n 0, 1) := by decide +kernel
theorem dX2_addToTable_1 : decode cX2_addToTable 1 = .ok (.iconst 1, 1) := by decide +kernel
theorem dX2_addToTable_2 : decode cX2_addToTable 2 = .ok (.invokevirtual 82, 3) := by decide +kernel
theorem dX2_addToTable_5 : decode cX2_addToTable 5 = .ok (.aload_n 0, 1) := by decide +kernel
theorem dX2_addToTable_6 : decode cX2_addToTable 6 = .ok (.getfield 14, 3) := by decide +kernel
theorem dX2_addToTable_9 : decode cX2_addToTable 9 = .ok (.iload_n 1, 1) := by decide +kernel
theorem dX2_addToTable_10 : decode cX2_addToTable 10 = .ok (.iload_n 2, 1) := by decide +kernel
theorem dX2_addToTable_11 : decode cX2_addToTable 11 = .ok (.invokevirtual 85, 3) := by decide +kernel
theorem dX2_addToTable_14 : decode cX2_addToTable 14 = .ok (.return_, 1) := by decide +kernel
set_option maxRecDepth 20000 in
theorem ggX2_settle_X0_cutOut : GoodIn wsX2_settle wsX0_cutOut := goodIn_r _ [7, 8, 9, 10, 11, 12, 13, 14, 15, 16, 17, 18, 19, 20, 21, 22, 23, 24, 41, 42, 43, 44] (by decide +kernel) (by decide +kernel)
set_option maxRecDepth 20000 in
theorem gX2_settle_X0_cutOut : GoodIn wsX2_settle (wsV RX2 68 RX0 yX0_cutOut wsX0_cutOut) := goodIn_app (goodIn_of _ (by decide +kernel)) ggX2_settle_X0_cutOut
set_option maxRecDepth 20000 in
theorem ggX2_settle_X0_setValue : GoodIn wsX2_settle wsX0_setValue := goodIn_r _ [28, 9, 29, 30, 31, 13, 32, 16, 21, 22, 23, 24, 15, 41, 42, 43, 44] (by decide +kernel) (by decide +kernel)
set_option maxRecDepth 20000 in
theorem gX2_settle_X0_setValue : GoodIn wsX2_settle (wsV RX2 57 RX0 yX0_setValue wsX0_setValue) := goodIn_app (goodIn_of _ (by decide +kernel)) ggX2_settle_X0_setValue
theorem dX2_settle_0 : decode cX2_settle 0 = .ok (.iload_n 3, 1) := by decide +kernel
theorem dX2_settle_1 : decode cX2_settle 1 = .ok (.ifCond .eq 15, 3) := by decide +kernel
theorem dX2_settle_4 : decode cX2_settle 4 = .ok (.aload_n 0, 1) := by decide +kernel
theorem dX2_settle_5 : decode cX2_settle 5 = .ok (.getfield 14, 3) := by decide +kernel
theorem dX2_settle_8 : decode cX2_settle 8 = .ok (.iload_n 1, 1) := by decide +kernel
theorem dX2_settle_9 : decode cX2_settle 9 = .ok (.invokevirtual 68, 3) := by decide +kernel
theorem dX2_settle_12 : decode cX2_settle 12 = .ok (.ldc2_w 52, 3) := by decide +kernel
theorem dX2_settle_15 : decode cX2_settle 15 = .ok (.lreturn, 1) := by decide +kernel
theorem dX2_settle_16 : decode cX2_settle 16 = .ok (.aload_n 0, 1) := by decide +kernel
theorem dX2_settle_17 : decode cX2_settle 17 = .ok (.getfield 14, 3) := by decide +kernel
theorem dX2_settle_20 : decode cX2_settle 20 = .ok (.iload_n 1, 1) := by decide +kernel
theorem dX2_settle_21 : decode cX2_settle 21 = .ok (.iload_n 2, 1) := by decide +kernel
theorem dX2_settle_22 : decode cX2_settle 22 = .ok (.invokevirtual 57, 3) := by decide +kernel
theorem dX2_settle_25 : decode cX2_settle 25 = .ok (.iload_n 2, 1) := by decide +kernel
theorem dX2_settle_26 : decode cX2_settle 26 = .ok (.i2l, 1) := by decide +kernel
theorem dX2_settle_27 : decode cX2_settle 27 = .ok (.lreturn, 1) := by decide +kernel
set_option maxRecDepth 20000 in
theorem ggX2_newKeysOfFill_X2_differentKeys : GoodIn wsX2_newKeysOfFill wsX2_differentKeys := goodIn_r _ [5] (by decide +kernel) (by decide +kernel)
set_option maxRecDepth 20000 in
theorem gX2_newKeysOfFill_X2_differentKeys : GoodIn wsX2_newKeysOfFill (va_wsS RX2 124 yX2_differentKeys wsX2_differentKeys) := goodIn_app (goodIn_of _ (by decide +kernel)) ggX2_newKeysOfFill_X2_differentKeys
set_option maxRecDepth 20000 in
theorem ggX2_newKeysOfFill_X0_hasKey : GoodIn wsX2_newKeysOfFill wsX0_hasKey := goodIn_r _ [10, 11, 12, 13, 14, 15, 16, 17, 18, 19, 20, 21, 22, 31, 32, 33, 34] (by decide +kernel) (by decide +kernel)
set_option maxRecDepth 20000 in
theorem gX2_newKeysOfFill_X0_hasKey : GoodIn wsX2_newKeysOfFill (wsV RX2 71 RX0 yX0_hasKey wsX0_hasKey) := goodIn_app (goodIn_of _ (by decide +kernel)) ggX2_newKeysOfFill_X0_hasKey
theorem dX2_newKeysOfFill_0 : decode cX2_newKeysOfFill 0 = .ok (.iload_n 2, 1) := by decide +kernel
theorem dX2_newKeysOfFill_1 : decode cX2_newKeysOfFill 1 = .ok (.iload_n 3, 1) := by decide +kernel
theorem dX2_newKeysOfFill_2 : decode cX2_newKeysOfFill 2 = .ok (.invokestatic 124, 3) := by decide +kernel
theorem dX2_newKeysOfFill_5 : decode cX2_newKeysOfFill 5 = .ok (.istore 4, 2) := by decide +kernel
theorem dX2_newKeysOfFill_7 : decode cX2_newKeysOfFill 7 = .ok (.iconst 0, 1) := by decide +kernel
theorem dX2_newKeysOfFill_8 : decode cX2_newKeysOfFill 8 = .ok (.istore 5, 2) := by decide +kernel
theorem dX2_newKeysOfFill_10 : decode cX2_newKeysOfFill 10 = .ok (.iconst 0, 1) := by decide +kernel
theorem dX2_newKeysOfFill_11 : decode cX2_newKeysOfFill 11 = .ok (.istore 6, 2) := by decide +kernel
theorem dX2_newKeysOfFill_13 : decode cX2_newKeysOfFill 13 = .ok (.iload 6, 2) := by decide +kernel
theorem dX2_newKeysOfFill_15 : decode cX2_newKeysOfFill 15 = .ok (.iload 4, 2) := by decide +kernel
theorem dX2_newKeysOfFill_17 : decode cX2_newKeysOfFill 17 = .ok (.if_icmp .ge 28, 3) := by decide +kernel
theorem dX2_newKeysOfFill_20 : decode cX2_newKeysOfFill 20 = .ok (.aload_n 0, 1) := by decide +kernel
theorem dX2_newKeysOfFill_21 : decode cX2_newKeysOfFill 21 = .ok (.getfield 14, 3) := by decide +kernel
theorem dX2_newKeysOfFill_24 : decode cX2_newKeysOfFill 24 = .ok (.iload_n 1, 1) := by decide +kernel
theorem dX2_newKeysOfFill_25 : decode cX2_newKeysOfFill 25 = .ok (.iload 6, 2) := by decide +kernel
theorem dX2_newKeysOfFill_27 : decode cX2_newKeysOfFill 27 = .ok (.iload_n 2, 1) := by decide +kernel
theorem dX2_newKeysOfFill_28 : decode cX2_newKeysOfFill 28 = .ok (.imul, 1) := by decide +kernel
theorem dX2_newKeysOfFill_29 : decode cX2_newKeysOfFill 29 = .ok (.iadd, 1) := by decide +kernel
theorem dX2_newKeysOfFill_30 : decode cX2_newKeysOfFill 30 = .ok (.invokevirtual 71, 3) := by decide +kernel
theorem dX2_newKeysOfFill_33 : decode cX2_newKeysOfFill 33 = .ok (.ifCond .ne 6, 3) := by decide +kernel
theorem dX2_newKeysOfFill_36 : decode cX2_newKeysOfFill 36 = .ok (.iinc 5 1, 3) := by decide +kernel
theorem dX2_newKeysOfFill_39 : decode cX2_newKeysOfFill 39 = .ok (.iinc 6 1, 3) := by decide +kernel
theorem dX2_newKeysOfFill_42 : decode cX2_newKeysOfFill 42 = .ok (.goto (-29), 3) := by decide +kernel
theorem dX2_newKeysOfFill_45 : decode cX2_newKeysOfFill 45 = .ok (.iload 5, 2) := by decide +kernel
theorem dX2_newKeysOfFill_47 : decode cX2_newKeysOfFill 47 = .ok (.ireturn, 1) := by decide +kernel
theorem dX2_differentKeys_0 : decode cX2_differentKeys 0 = .ok (.iconst 1, 1) := by decide +kernel
theorem dX2_differentKeys_1 : decode cX2_differentKeys 1 = .ok (.istore_n 2, 1) := by decide +kernel
theorem dX2_differentKeys_2 : decode cX2_differentKeys 2 = .ok (.iload_n 2, 1) := by decide +kernel
theorem dX2_differentKeys_3 : decode cX2_differentKeys 3 = .ok (.iload_n 1, 1) := by decide +kernel
theorem dX2_differentKeys_4 : decode cX2_differentKeys 4 = .ok (.if_icmp .ge 17, 3) := by decide +kernel
theorem dX2_differentKeys_7 : decode cX2_differentKeys 7 = .ok (.iload_n 2, 1) := by decide +kernel
theorem dX2_differentKeys_8 : decode cX2_differentKeys 8 = .ok (.iload_n 0, 1) := by decide +kernel
theorem dX2_differentKeys_9 : decode cX2_differentKeys 9 = .ok (.imul, 1) := by decide +kernel
theorem dX2_differentKeys_10 : decode cX2_differentKeys 10 = .ok (.ifCond .ne 5, 3) := by decide +kernel
theorem dX2_differentKeys_13 : decode cX2_differentKeys 13 = .ok (.iload_n 2, 1) := by decide +kernel
theorem dX2_differentKeys_14 : decode cX2_differentKeys 14 = .ok (.ireturn, 1) := by decide +kernel
theorem dX2_differentKeys_15 : decode cX2_differentKeys 15 = .ok (.iinc 2 1, 3) := by decide +kernel
theorem dX2_differentKeys_18 : decode cX2_differentKeys 18 = .ok (.goto (-16), 3) := by decide +kernel
theorem dX2_differentKeys_21 : decode cX2_differentKeys 21 = .ok (.iload_n 1, 1) := by decide +kernel
theorem dX2_differentKeys_22 : decode cX2_differentKeys 22 = .ok (.ireturn, 1) := by decide +kernel
set_option maxRecDepth 20000 in
theorem ggX2_newKeysOfShelf_X0_held : GoodIn wsX2_newKeysOfShelf wsX0_held := goodIn_r _ [7, 8, 9, 10, 11, 12, 13, 14, 48, 49, 50, 51] (by decide +kernel) (by decide +kernel)
set_option maxRecDepth 20000 in
theorem gX2_newKeysOfShelf_X0_held : GoodIn wsX2_newKeysOfShelf (wsV RX2 102 RX0 yX0_held wsX0_held) := goodIn_app (goodIn_of _ (by decide +kernel)) ggX2_newKeysOfShelf_X0_held
set_option maxRecDepth 20000 in
theorem ggX2_newKeysOfShelf_X0_keyIn : GoodIn wsX2_newKeysOfShelf wsX0_keyIn := goodIn_r _ [18, 8, 19, 20, 21, 12, 22, 23, 24, 25, 26, 27, 14, 48, 49, 50, 51] (by decide +kernel) (by decide +kernel)
set_option maxRecDepth 20000 in
theorem gX2_newKeysOfShelf_X0_keyIn : GoodIn wsX2_newKeysOfShelf (wsV RX2 109 RX0 yX0_keyIn wsX0_keyIn) := goodIn_app (goodIn_of _ (by decide +kernel)) ggX2_newKeysOfShelf_X0_keyIn
set_option maxRecDepth 20000 in
theorem ggX2_newKeysOfShelf_X0_hasKey : GoodIn wsX2_newKeysOfShelf wsX0_hasKey := goodIn_r _ [31, 8, 32, 33, 34, 12, 35, 36, 37, 38, 39, 14, 23, 48, 49, 50, 51] (by decide +kernel) (by decide +kernel)
set_option maxRecDepth 20000 in
theorem gX2_newKeysOfShelf_X0_hasKey : GoodIn wsX2_newKeysOfShelf (wsV RX2 71 RX0 yX0_hasKey wsX0_hasKey) := goodIn_app (goodIn_of _ (by decide +kernel)) ggX2_newKeysOfShelf_X0_hasKey
theorem dX2_newKeysOfShelf_0 : decode cX2_newKeysOfShelf 0 = .ok (.iconst 0, 1) := by decide +kernel
theorem dX2_newKeysOfShelf_1 : decode cX2_newKeysOfShelf 1 = .ok (.istore_n 1, 1) := by decide +kernel
theorem dX2_newKeysOfShelf_2 : decode cX2_newKeysOfShelf 2 = .ok (.iconst 0, 1) := by decide +kernel
theorem dX2_newKeysOfShelf_3 : decode cX2_newKeysOfShelf 3 = .ok (.istore_n 2, 1) := by decide +kernel
theorem dX2_newKeysOfShelf_4 : decode cX2_newKeysOfShelf 4 = .ok (.iload_n 2, 1) := by decide +kernel
theorem dX2_newKeysOfShelf_5 : decode cX2_newKeysOfShelf 5 = .ok (.aload_n 0, 1) := by decide +kernel
theorem dX2_newKeysOfShelf_6 : decode cX2_newKeysOfShelf 6 = .ok (.getfield 28, 3) := by decide +kernel
theorem dX2_newKeysOfShelf_9 : decode cX2_newKeysOfShelf 9 = .ok (.invokevirtual 102, 3) := by decide +kernel
theorem dX2_newKeysOfShelf_12 : decode cX2_newKeysOfShelf 12 = .ok (.if_icmp .ge 30, 3) := by decide +kernel
theorem dX2_newKeysOfShelf_15 : decode cX2_newKeysOfShelf 15 = .ok (.aload_n 0, 1) := by decide +kernel
theorem dX2_newKeysOfShelf_16 : decode cX2_newKeysOfShelf 16 = .ok (.getfield 14, 3) := by decide +kernel
theorem dX2_newKeysOfShelf_19 : decode cX2_newKeysOfShelf 19 = .ok (.aload_n 0, 1) := by decide +kernel
theorem dX2_newKeysOfShelf_20 : decode cX2_newKeysOfShelf 20 = .ok (.getfield 28, 3) := by decide +kernel
theorem dX2_newKeysOfShelf_23 : decode cX2_newKeysOfShelf 23 = .ok (.iload_n 2, 1) := by decide +kernel
theorem dX2_newKeysOfShelf_24 : decode cX2_newKeysOfShelf 24 = .ok (.invokevirtual 109, 3) := by decide +kernel
theorem dX2_newKeysOfShelf_27 : decode cX2_newKeysOfShelf 27 = .ok (.invokevirtual 71, 3) := by decide +kernel
theorem dX2_newKeysOfShelf_30 : decode cX2_newKeysOfShelf 30 = .ok (.ifCond .ne 6, 3) := by decide +kernel
theorem dX2_newKeysOfShelf_33 : decode cX2_newKeysOfShelf 33 = .ok (.iinc 1 1, 3) := by decide +kernel
theorem dX2_newKeysOfShelf_36 : decode cX2_newKeysOfShelf 36 = .ok (.iinc 2 1, 3) := by decide +kernel
theorem dX2_newKeysOfShelf_39 : decode cX2_newKeysOfShelf 39 = .ok (.goto (-35), 3) := by decide +kernel
theorem dX2_newKeysOfShelf_42 : decode cX2_newKeysOfShelf 42 = .ok (.iload_n 1, 1) := by decide +kernel
theorem dX2_newKeysOfShelf_43 : decode cX2_newKeysOfShelf 43 = .ok (.ireturn, 1) := by decide +kernel
set_option maxRecDepth 20000 in
theorem ggX2_count_X2_checkWord : GoodIn wsX2_count wsX2_checkWord := goodIn_ca (goodIn_r _ [7, 8, 9] (by decide +kernel) (by decide +kernel)) (goodIn_sub (fun _ h => List.mem_cons_of_mem _ (List.mem_append_right _ h)) (by decide +kernel))
set_option maxRecDepth 20000 in
theorem gX2_count_X2_checkWord : GoodIn wsX2_count (va_wsS RX2 127 yX2_checkWord wsX2_checkWord) := goodIn_app (goodIn_of _ (by decide +kernel)) ggX2_count_X2_checkWord
set_option maxRecDepth 20000 in
theorem ggX2_count_X0_placeOf : GoodIn wsX2_count wsX0_placeOf := goodIn_r _ [14, 15, 16, 17, 18, 19, 20, 21, 22, 68, 69, 70, 71] (by decide +kernel) (by decide +kernel)
set_option maxRecDepth 20000 in
theorem gX2_count_X0_placeOf : GoodIn wsX2_count (wsV RX2 44 RX0 yX0_placeOf wsX0_placeOf) := goodIn_app (goodIn_of _ (by decide +kernel)) ggX2_count_X0_placeOf
set_option maxRecDepth 20000 in
theorem ggX2_count_X0_held : GoodIn wsX2_count wsX0_held := goodIn_r _ [26, 15, 27, 28, 29, 19, 30, 21, 68, 69, 70, 71] (by decide +kernel) (by decide +kernel)
set_option maxRecDepth 20000 in
theorem gX2_count_X0_held : GoodIn wsX2_count (wsV RX2 102 RX0 yX0_held wsX0_held) := goodIn_app (goodIn_of _ (by decide +kernel)) ggX2_count_X0_held
set_option maxRecDepth 20000 in
theorem ggX2_count_X0_valueOr : GoodIn wsX2_count wsX0_valueOr := goodIn_r _ [34, 35, 36, 37, 38, 19, 39, 22, 40, 41, 42, 43, 21, 68, 69, 70, 71] (by decide +kernel) (by decide +kernel)
set_option maxRecDepth 20000 in
theorem gX2_count_X0_valueOr : GoodIn wsX2_count (wsV RX2 64 RX0 yX0_valueOr wsX0_valueOr) := goodIn_app (goodIn_of _ (by decide +kernel)) ggX2_count_X0_valueOr
set_option maxRecDepth 20000 in
theorem ggX2_count_X0_setOrAppend : GoodIn wsX2_count wsX0_setOrAppend := goodIn_r _ [47, 15, 35, 16, 17, 18, 19, 20, 21, 22, 48, 49, 50, 13, 51, 52, 53, 54, 55, 56, 57, 58, 59, 40, 41, 42, 43, 68, 69, 70, 71] (by decide +kernel) (by decide +kernel)
set_option maxRecDepth 20000 in
theorem gX2_count_X0_setOrAppend : GoodIn wsX2_count (wsV RX2 99 RX0 yX0_setOrAppend wsX0_setOrAppend) := goodIn_app (goodIn_of _ (by decide +kernel)) ggX2_count_X0_setOrAppend
theorem dX2_count_0 : decode cX2_count 0 = .ok (.iload_n 1, 1) := by decide +kernel
theorem dX2_count_1 : decode cX2_count 1 = .ok (.invokestatic 127, 3) := by decide +kernel
theorem dX2_count_4 : decode cX2_count 4 = .ok (.aload_n 0, 1) := by decide +kernel
theorem dX2_count_5 : decode cX2_count 5 = .ok (.getfield 18, 3) := by decide +kernel
theorem dX2_count_8 : decode cX2_count 8 = .ok (.iload_n 1, 1) := by decide +kernel
theorem dX2_count_9 : decode cX2_count 9 = .ok (.invokevirtual 44, 3) := by decide +kernel
theorem dX2_count_12 : decode cX2_count 12 = .ok (.istore_n 2, 1) := by decide +kernel
theorem dX2_count_13 : decode cX2_count 13 = .ok (.iload_n 2, 1) := by decide +kernel
theorem dX2_count_14 : decode cX2_count 14 = .ok (.iconst (-1), 1) := by decide +kernel
theorem dX2_count_15 : decode cX2_count 15 = .ok (.if_icmp .ne 26, 3) := by decide +kernel
theorem dX2_count_18 : decode cX2_count 18 = .ok (.aload_n 0, 1) := by decide +kernel
theorem dX2_count_19 : decode cX2_count 19 = .ok (.getfield 18, 3) := by decide +kernel
theorem dX2_count_22 : decode cX2_count 22 = .ok (.invokevirtual 102, 3) := by decide +kernel
theorem dX2_count_25 : decode cX2_count 25 = .ok (.sipush 200, 3) := by decide +kernel
theorem dX2_count_28 : decode cX2_count 28 = .ok (.if_icmp .lt 13, 3) := by decide +kernel
theorem dX2_count_31 : decode cX2_count 31 = .ok (.new 119, 3) := by decide +kernel
theorem dX2_count_34 : decode cX2_count 34 = .ok (.dup, 1) := by decide +kernel
theorem dX2_count_35 : decode cX2_count 35 = .ok (.ldc 130, 2) := by decide +kernel
theorem dX2_count_37 : decode cX2_count 37 = .ok (.invokespecial 123, 3) := by decide +kernel
theorem dX2_count_40 : decode cX2_count 40 = .ok (.athrow, 1) := by decide +kernel
theorem dX2_count_41 : decode cX2_count 41 = .ok (.aload_n 0, 1) := by decide +kernel
theorem dX2_count_42 : decode cX2_count 42 = .ok (.getfield 18, 3) := by decide +kernel
theorem dX2_count_45 : decode cX2_count 45 = .ok (.iload_n 2, 1) := by decide +kernel
theorem dX2_count_46 : decode cX2_count 46 = .ok (.iconst 0, 1) := by decide +kernel
theorem dX2_count_47 : decode cX2_count 47 = .ok (.invokevirtual 64, 3) := by decide +kernel
theorem dX2_count_50 : decode cX2_count 50 = .ok (.iconst 1, 1) := by decide +kernel
theorem dX2_count_51 : decode cX2_count 51 = .ok (.iadd, 1) := by decide +kernel
theorem dX2_count_52 : decode cX2_count 52 = .ok (.istore_n 3, 1) := by decide +kernel
theorem dX2_count_53 : decode cX2_count 53 = .ok (.aload_n 0, 1) := by decide +kernel
theorem dX2_count_54 : decode cX2_count 54 = .ok (.getfield 18, 3) := by decide +kernel
theorem dX2_count_57 : decode cX2_count 57 = .ok (.iload_n 1, 1) := by decide +kernel
theorem dX2_count_58 : decode cX2_count 58 = .ok (.iload_n 3, 1) := by decide +kernel
theorem dX2_count_59 : decode cX2_count 59 = .ok (.invokevirtual 99, 3) := by decide +kernel
theorem dX2_count_62 : decode cX2_count 62 = .ok (.iload_n 3, 1) := by decide +kernel
theorem dX2_count_63 : decode cX2_count 63 = .ok (.ireturn, 1) := by decide +kernel
set_option maxRecDepth 20000 in
theorem ggX2_times_X2_checkWord : GoodIn wsX2_times wsX2_checkWord := goodIn_ca (goodIn_r _ [5, 6, 7] (by decide +kernel) (by decide +kernel)) (goodIn_sub (fun _ h => List.mem_cons_of_mem _ (List.mem_append_right _ h)) (by decide +kernel))
set_option maxRecDepth 20000 in
theorem gX2_times_X2_checkWord : GoodIn wsX2_times (va_wsS RX2 127 yX2_checkWord wsX2_checkWord) := goodIn_app (goodIn_of _ (by decide +kernel)) ggX2_times_X2_checkWord
set_option maxRecDepth 20000 in
theorem ggX2_times_X0_placeOf : GoodIn wsX2_times wsX0_placeOf := goodIn_r _ [12, 13, 14, 15, 16, 17, 18, 19, 20, 42, 43, 44, 45] (by decide +kernel) (by decide +kernel)
set_option maxRecDepth 20000 in
theorem gX2_times_X0_placeOf : GoodIn wsX2_times (wsV RX2 44 RX0 yX0_placeOf wsX0_placeOf) := goodIn_app (goodIn_of _ (by decide +kernel)) ggX2_times_X0_placeOf
set_option maxRecDepth 20000 in
theorem ggX2_times_X0_valueOr : GoodIn wsX2_times wsX0_valueOr := goodIn_r _ [24, 25, 26, 27, 28, 17, 29, 20, 30, 31, 32, 33, 19, 42, 43, 44, 45] (by decide +kernel) (by decide +kernel)
set_option maxRecDepth 20000 in
theorem gX2_times_X0_valueOr : GoodIn wsX2_times (wsV RX2 64 RX0 yX0_valueOr wsX0_valueOr) := goodIn_app (goodIn_of _ (by decide +kernel)) ggX2_times_X0_valueOr
theorem dX2_times_0 : decode cX2_times 0 = .ok (.iload_n 1, 1) := by decide +kernel
theorem dX2_times_1 : decode cX2_times 1 = .ok (.invokestatic 127, 3) := by decide +kernel
theorem dX2_times_4 : decode cX2_times 4 = .ok (.aload_n 0, 1) := by decide +kernel
theorem dX2_times_5 : decode cX2_times 5 = .ok (.getfield 18, 3) := by decide +kernel
theorem dX2_times_8 : decode cX2_times 8 = .ok (.aload_n 0, 1) := by decide +kernel
theorem dX2_times_9 : decode cX2_times 9 = .ok (.getfield 18, 3) := by decide +kernel
theorem dX2_times_12 : decode cX2_times 12 = .ok (.iload_n 1, 1) := by decide +kernel
theorem dX2_times_13 : decode cX2_times 13 = .ok (.invokevirtual 44, 3) := by decide +kernel
theorem dX2_times_16 : decode cX2_times 16 = .ok (.iconst 0, 1) := by decide +kernel
theorem dX2_times_17 : decode cX2_times 17 = .ok (.invokevirtual 64, 3) := by decide +kernel
theorem dX2_times_20 : decode cX2_times 20 = .ok (.ireturn, 1) := by decide +kernel
set_option maxRecDepth 20000 in
theorem ggX2_forget_X2_checkWord : GoodIn wsX2_forget wsX2_checkWord := goodIn_ca (goodIn_r _ [5, 6, 7] (by decide +kernel) (by decide +kernel)) (goodIn_sub (fun _ h => List.mem_cons_of_mem _ (List.mem_append_right _ h)) (by decide +kernel))
set_option maxRecDepth 20000 in
theorem gX2_forget_X2_checkWord : GoodIn wsX2_forget (va_wsS RX2 127 yX2_checkWord wsX2_checkWord) := goodIn_app (goodIn_of _ (by decide +kernel)) ggX2_forget_X2_checkWord
set_option maxRecDepth 20000 in
theorem ggX2_forget_X0_placeOf : GoodIn wsX2_forget wsX0_placeOf := goodIn_r _ [12, 13, 14, 15, 16, 17, 18, 19, 20, 54, 55, 56, 57] (by decide +kernel) (by decide +kernel)
set_option maxRecDepth 20000 in
theorem gX2_forget_X0_placeOf : GoodIn wsX2_forget (wsV RX2 44 RX0 yX0_placeOf wsX0_placeOf) := goodIn_app (goodIn_of _ (by decide +kernel)) ggX2_forget_X0_placeOf
set_option maxRecDepth 20000 in
theorem ggX2_forget_X0_valueOr : GoodIn wsX2_forget wsX0_valueOr := goodIn_r _ [24, 25, 26, 27, 28, 17, 29, 20, 30, 31, 32, 33, 19, 54, 55, 56, 57] (by decide +kernel) (by decide +kernel)
set_option maxRecDepth 20000 in
theorem gX2_forget_X0_valueOr : GoodIn wsX2_forget (wsV RX2 64 RX0 yX0_valueOr wsX0_valueOr) := goodIn_app (goodIn_of _ (by decide +kernel)) ggX2_forget_X0_valueOr
set_option maxRecDepth 20000 in
theorem ggX2_forget_X0_cutOut : GoodIn wsX2_forget wsX0_cutOut := goodIn_r _ [37, 13, 25, 38, 39, 40, 17, 41, 19, 20, 42, 43, 44, 45, 30, 31, 32, 33, 54, 55, 56, 57] (by decide +kernel) (by decide +kernel)
set_option maxRecDepth 20000 in
theorem gX2_forget_X0_cutOut : GoodIn wsX2_forget (wsV RX2 68 RX0 yX0_cutOut wsX0_cutOut) := goodIn_app (goodIn_of _ (by decide +kernel)) ggX2_forget_X0_cutOut
theorem dX2_forget_0 : decode cX2_forget 0 = .ok (.iload_n 1, 1) := by decide +kernel
theorem dX2_forget_1 : decode cX2_forget 1 = .ok (.invokestatic 127, 3) := by decide +kernel
theorem dX2_forget_4 : decode cX2_forget 4 = .ok (.aload_n 0, 1) := by decide +kernel
theorem dX2_forget_5 : decode cX2_forget 5 = .ok (.getfield 18, 3) := by decide +kernel
theorem dX2_forget_8 : decode cX2_forget 8 = .ok (.iload_n 1, 1) := by decide +kernel
theorem dX2_forget_9 : decode cX2_forget 9 = .ok (.invokevirtual 44, 3) := by decide +kernel
theorem dX2_forget_12 : decode cX2_forget 12 = .ok (.istore_n 2, 1) := by decide +kernel
theorem dX2_forget_13 : decode cX2_forget 13 = .ok (.aload_n 0, 1) := by decide +kernel
theorem dX2_forget_14 : decode cX2_forget 14 = .ok (.getfield 18, 3) := by decide +kernel
theorem dX2_forget_17 : decode cX2_forget 17 = .ok (.iload_n 2, 1) := by decide +kernel
theorem dX2_forget_18 : decode cX2_forget 18 = .ok (.iconst 0, 1) := by decide +kernel
theorem dX2_forget_19 : decode cX2_forget 19 = .ok (.invokevirtual 64, 3) := by decide +kernel
theorem dX2_forget_22 : decode cX2_forget 22 = .ok (.istore_n 3, 1) := by decide +kernel
theorem dX2_forget_23 : decode cX2_forget 23 = .ok (.aload_n 0, 1) := by decide +kernel
theorem dX2_forget_24 : decode cX2_forget 24 = .ok (.getfield 18, 3) := by decide +kernel
theorem dX2_forget_27 : decode cX2_forget 27 = .ok (.iload_n 2, 1) := by decide +kernel
theorem dX2_forget_28 : decode cX2_forget 28 = .ok (.invokevirtual 68, 3) := by decide +kernel
theorem dX2_forget_31 : decode cX2_forget 31 = .ok (.iload_n 3, 1) := by decide +kernel
theorem dX2_forget_32 : decode cX2_forget 32 = .ok (.ireturn, 1) := by decide +kernel
set_option maxRecDepth 20000 in
theorem ggX2_words_X0_held : GoodIn wsX2_words wsX0_held := goodIn_r _ [6, 7, 8, 9, 10, 11, 12, 13, 22, 23, 24, 25] (by decide +kernel) (by decide +kernel)
set_option maxRecDepth 20000 in
theorem gX2_words_X0_held : GoodIn wsX2_words (wsV RX2 102 RX0 yX0_held wsX0_held) := goodIn_app (goodIn_of _ (by decide +kernel)) ggX2_words_X0_held
theorem dX2_words_0 : decode cX2_words 0 = .ok (.aload_n 0, 1) := by decide +kernel
theorem dX2_words_1 : decode cX2_words 1 = .ok (.getfield 18, 3) := by decide +kernel
theorem dX2_words_4 : decode cX2_words 4 = .ok (.invokevirtual 102, 3) := by decide +kernel
theorem dX2_words_7 : decode cX2_words 7 = .ok (.ireturn, 1) := by decide +kernel
set_option maxRecDepth 20000 in
theorem ggX2_mostOften_X0_held : GoodIn wsX2_mostOften wsX0_held := goodIn_r _ [8, 9, 10, 11, 12, 13, 14, 15, 47, 48, 49, 50] (by decide +kernel) (by decide +kernel)
set_option maxRecDepth 20000 in
theorem gX2_mostOften_X0_held : GoodIn wsX2_mostOften (wsV RX2 102 RX0 yX0_held wsX0_held) := goodIn_app (goodIn_of _ (by decide +kernel)) ggX2_mostOften_X0_held
set_option maxRecDepth 20000 in
theorem ggX2_mostOften_X2_comesBefore : GoodIn wsX2_mostOften wsX2_comesBefore := goodIn_r _ [20, 3, 21, 22, 23, 7, 24, 25, 26, 27, 28, 13, 29, 30, 31, 32, 33, 34, 15, 35, 36, 37, 38, 9, 39, 40, 41, 42, 43, 44, 45, 46, 47, 48, 49, 50] (by decide +kernel) (by decide +kernel)
set_option maxRecDepth 20000 in
theorem gX2_mostOften_X2_comesBefore : GoodIn wsX2_mostOften (wsV RX2 137 RX2 yX2_comesBefore wsX2_comesBefore) := goodIn_app (goodIn_of _ (by decide +kernel)) ggX2_mostOften_X2_comesBefore
set_option maxRecDepth 20000 in
theorem ggX2_mostOften_X0_keyIn : GoodIn wsX2_mostOften wsX0_keyIn := goodIn_r _ [38, 9, 26, 27, 28, 13, 29, 30, 31, 32, 33, 34, 15, 47, 48, 49, 50] (by decide +kernel) (by decide +kernel)
set_option maxRecDepth 20000 in
theorem gX2_mostOften_X0_keyIn : GoodIn wsX2_mostOften (wsV RX2 109 RX0 yX0_keyIn wsX0_keyIn) := goodIn_app (goodIn_of _ (by decide +kernel)) ggX2_mostOften_X0_keyIn
theorem dX2_mostOften_0 : decode cX2_mostOften 0 = .ok (.aload_n 0, 1) := by decide +kernel
theorem dX2_mostOften_1 : decode cX2_mostOften 1 = .ok (.getfield 18, 3) := by decide +kernel
theorem dX2_mostOften_4 : decode cX2_mostOften 4 = .ok (.invokevirtual 102, 3) := by decide +kernel
theorem dX2_mostOften_7 : decode cX2_mostOften 7 = .ok (.ifCond .ne 13, 3) := by decide +kernel
theorem dX2_mostOften_10 : decode cX2_mostOften 10 = .ok (.new 132, 3) := by decide +kernel
theorem dX2_mostOften_13 : decode cX2_mostOften 13 = .ok (.dup, 1) := by decide +kernel
theorem dX2_mostOften_14 : decode cX2_mostOften 14 = .ok (.ldc 134, 2) := by decide +kernel
theorem dX2_mostOften_16 : decode cX2_mostOften 16 = .ok (.invokespecial 136, 3) := by decide +kernel
theorem dX2_mostOften_19 : decode cX2_mostOften 19 = .ok (.athrow, 1) := by decide +kernel
theorem dX2_mostOften_20 : decode cX2_mostOften 20 = .ok (.iconst 0, 1) := by decide +kernel
theorem dX2_mostOften_21 : decode cX2_mostOften 21 = .ok (.istore_n 1, 1) := by decide +kernel
theorem dX2_mostOften_22 : decode cX2_mostOften 22 = .ok (.iconst 1, 1) := by decide +kernel
theorem dX2_mostOften_23 : decode cX2_mostOften 23 = .ok (.istore_n 2, 1) := by decide +kernel
theorem dX2_mostOften_24 : decode cX2_mostOften 24 = .ok (.iload_n 2, 1) := by decide +kernel
theorem dX2_mostOften_25 : decode cX2_mostOften 25 = .ok (.aload_n 0, 1) := by decide +kernel
theorem dX2_mostOften_26 : decode cX2_mostOften 26 = .ok (.getfield 18, 3) := by decide +kernel
theorem dX2_mostOften_29 : decode cX2_mostOften 29 = .ok (.invokevirtual 102, 3) := by decide +kernel
theorem dX2_mostOften_32 : decode cX2_mostOften 32 = .ok (.if_icmp .ge 20, 3) := by decide +kernel
theorem dX2_mostOften_35 : decode cX2_mostOften 35 = .ok (.aload_n 0, 1) := by decide +kernel
theorem dX2_mostOften_36 : decode cX2_mostOften 36 = .ok (.iload_n 2, 1) := by decide +kernel
theorem dX2_mostOften_37 : decode cX2_mostOften 37 = .ok (.iload_n 1, 1) := by decide +kernel
theorem dX2_mostOften_38 : decode cX2_mostOften 38 = .ok (.invokevirtual 137, 3) := by decide +kernel
theorem dX2_mostOften_41 : decode cX2_mostOften 41 = .ok (.ifCond .eq 5, 3) := by decide +kernel
theorem dX2_mostOften_44 : decode cX2_mostOften 44 = .ok (.iload_n 2, 1) := by decide +kernel
theorem dX2_mostOften_45 : decode cX2_mostOften 45 = .ok (.istore_n 1, 1) := by decide +kernel
theorem dX2_mostOften_46 : decode cX2_mostOften 46 = .ok (.iinc 2 1, 3) := by decide +kernel
theorem dX2_mostOften_49 : decode cX2_mostOften 49 = .ok (.goto (-25), 3) := by decide +kernel
theorem dX2_mostOften_52 : decode cX2_mostOften 52 = .ok (.aload_n 0, 1) := by decide +kernel
theorem dX2_mostOften_53 : decode cX2_mostOften 53 = .ok (.getfield 18, 3) := by decide +kernel
theorem dX2_mostOften_56 : decode cX2_mostOften 56 = .ok (.iload_n 1, 1) := by decide +kernel
theorem dX2_mostOften_57 : decode cX2_mostOften 57 = .ok (.invokevirtual 109, 3) := by decide +kernel
theorem dX2_mostOften_60 : decode cX2_mostOften 60 = .ok (.ireturn, 1) := by decide +kernel
theorem dX2_checkWord_0 : decode cX2_checkWord 0 = .ok (.iload_n 0, 1) := by decide +kernel
theorem dX2_checkWord_1 : decode cX2_checkWord 1 = .ok (.ifCond .lt 10, 3) := by decide +kernel
theorem dX2_checkWord_4 : decode cX2_checkWord 4 = .ok (.iload_n 0, 1) := by decide +kernel
theorem dX2_checkWord_5 : decode cX2_checkWord 5 = .ok (.sipush 18277, 3) := by decide +kernel
theorem dX2_checkWord_8 : decode cX2_checkWord 8 = .ok (.if_icmp .le 13, 3) := by decide +kernel
theorem dX2_checkWord_11 : decode cX2_checkWord 11 = .ok (.new 88, 3) := by decide +kernel
theorem dX2_checkWord_14 : decode cX2_checkWord 14 = .ok (.dup, 1) := by decide +kernel
theorem dX2_checkWord_15 : decode cX2_checkWord 15 = .ok (.ldc 141, 2) := by decide +kernel
theorem dX2_checkWord_17 : decode cX2_checkWord 17 = .ok (.invokespecial 92, 3) := by decide +kernel
theorem dX2_checkWord_20 : decode cX2_checkWord 20 = .ok (.athrow, 1) := by decide +kernel
theorem dX2_checkWord_21 : decode cX2_checkWord 21 = .ok (.return_, 1) := by decide +kernel
set_option maxRecDepth 20000 in
theorem ggX2_comesBefore_X0_valueIn : GoodIn wsX2_comesBefore wsX0_valueIn := goodIn_r _ [6, 7, 8, 9, 10, 11, 12, 13, 14, 15, 16, 17, 18, 32, 33, 34, 35] (by decide +kernel) (by decide +kernel)
set_option maxRecDepth 20000 in
theorem gX2_comesBefore_X0_valueIn : GoodIn wsX2_comesBefore (wsV RX2 54 RX0 yX0_valueIn wsX0_valueIn) := goodIn_app (goodIn_of _ (by decide +kernel)) ggX2_comesBefore_X0_valueIn
set_option maxRecDepth 20000 in
theorem ggX2_comesBefore_X0_keyIn : GoodIn wsX2_comesBefore wsX0_keyIn := goodIn_r _ [22, 23, 8, 9, 10, 11, 12, 13, 14, 15, 16, 17, 18, 32, 33, 34, 35] (by decide +kernel) (by decide +kernel)
set_option maxRecDepth 20000 in
theorem gX2_comesBefore_X0_keyIn : GoodIn wsX2_comesBefore (wsV RX2 109 RX0 yX0_keyIn wsX0_keyIn) := goodIn_app (goodIn_of _ (by decide +kernel)) ggX2_comesBefore_X0_keyIn
theorem dX2_comesBefore_0 : decode cX2_comesBefore 0 = .ok (.aload_n 0, 1) := by decide +kernel
theorem dX2_comesBefore_1 : decode cX2_comesBefore 1 = .ok (.getfield 18, 3) := by decide +kernel
theorem dX2_comesBefore_4 : decode cX2_comesBefore 4 = .ok (.iload_n 1, 1) := by decide +kernel
theorem dX2_comesBefore_5 : decode cX2_comesBefore 5 = .ok (.invokevirtual 54, 3) := by decide +kernel
theorem dX2_comesBefore_8 : decode cX2_comesBefore 8 = .ok (.istore_n 3, 1) := by decide +kernel
theorem dX2_comesBefore_9 : decode cX2_comesBefore 9 = .ok (.aload_n 0, 1) := by decide +kernel
theorem dX2_comesBefore_10 : decode cX2_comesBefore 10 = .ok (.getfield 18, 3) := by decide +kernel
theorem dX2_comesBefore_13 : decode cX2_comesBefore 13 = .ok (.iload_n 2, 1) := by decide +kernel
theorem dX2_comesBefore_14 : decode cX2_comesBefore 14 = .ok (.invokevirtual 54, 3) := by decide +kernel
theorem dX2_comesBefore_17 : decode cX2_comesBefore 17 = .ok (.istore 4, 2) := by decide +kernel
theorem dX2_comesBefore_19 : decode cX2_comesBefore 19 = .ok (.iload_n 3, 1) := by decide +kernel
theorem dX2_comesBefore_20 : decode cX2_comesBefore 20 = .ok (.iload 4, 2) := by decide +kernel
theorem dX2_comesBefore_22 : decode cX2_comesBefore 22 = .ok (.if_icmp .gt 28, 3) := by decide +kernel
theorem dX2_comesBefore_25 : decode cX2_comesBefore 25 = .ok (.iload_n 3, 1) := by decide +kernel
theorem dX2_comesBefore_26 : decode cX2_comesBefore 26 = .ok (.iload 4, 2) := by decide +kernel
theorem dX2_comesBefore_28 : decode cX2_comesBefore 28 = .ok (.if_icmp .ne 26, 3) := by decide +kernel
theorem dX2_comesBefore_31 : decode cX2_comesBefore 31 = .ok (.aload_n 0, 1) := by decide +kernel
theorem dX2_comesBefore_32 : decode cX2_comesBefore 32 = .ok (.getfield 18, 3) := by decide +kernel
theorem dX2_comesBefore_35 : decode cX2_comesBefore 35 = .ok (.iload_n 1, 1) := by decide +kernel
theorem dX2_comesBefore_36 : decode cX2_comesBefore 36 = .ok (.invokevirtual 109, 3) := by decide +kernel
theorem dX2_comesBefore_39 : decode cX2_comesBefore 39 = .ok (.aload_n 0, 1) := by decide +kernel
theorem dX2_comesBefore_40 : decode cX2_comesBefore 40 = .ok (.getfield 18, 3) := by decide +kernel
theorem dX2_comesBefore_43 : decode cX2_comesBefore 43 = .ok (.iload_n 2, 1) := by decide +kernel
theorem dX2_comesBefore_44 : decode cX2_comesBefore 44 = .ok (.invokevirtual 109, 3) := by decide +kernel
theorem dX2_comesBefore_47 : decode cX2_comesBefore 47 = .ok (.if_icmp .ge 7, 3) := by decide +kernel
theorem dX2_comesBefore_50 : decode cX2_comesBefore 50 = .ok (.iconst 1, 1) := by decide +kernel
theorem dX2_comesBefore_51 : decode cX2_comesBefore 51 = .ok (.goto 4, 3) := by decide +kernel
theorem dX2_comesBefore_54 : decode cX2_comesBefore 54 = .ok (.iconst 0, 1) := by decide +kernel
theorem dX2_comesBefore_55 : decode cX2_comesBefore 55 = .ok (.ireturn, 1) := by decide +kernel
set_option maxRecDepth 20000 in
theorem ggX2_mark_X1_has : GoodIn wsX2_mark wsX1_has := goodIn_r _ [6, 7, 8, 9, 5, 10, 11, 12, 36, 37] (by decide +kernel) (by decide +kernel)
set_option maxRecDepth 20000 in
theorem gX2_mark_X1_has : GoodIn wsX2_mark (wsV RX2 143 RX1 yX1_has wsX1_has) := goodIn_app (goodIn_of _ (by decide +kernel)) ggX2_mark_X1_has
set_option maxRecDepth 20000 in
theorem ggX2_mark_X2_checkMarksTake : GoodIn wsX2_mark wsX2_checkMarksTake := goodIn_ca (goodIn_r _ [17, 18, 19, 1, 20, 21, 22, 5, 23, 11, 28, 29, 30, 31, 32, 33, 34, 35, 36, 37] (by decide +kernel) (by decide +kernel)) (goodIn_sub (fun _ h => List.mem_cons_of_mem _ (List.mem_append_right _ h)) (by decide +kernel))
set_option maxRecDepth 20000 in
theorem gX2_mark_X2_checkMarksTake : GoodIn wsX2_mark (wsV RX2 146 RX2 yX2_checkMarksTake wsX2_checkMarksTake) := goodIn_app (goodIn_of _ (by decide +kernel)) ggX2_mark_X2_checkMarksTake
set_option maxRecDepth 20000 in
theorem ggX2_mark_X1_append : GoodIn wsX2_mark wsX1_append := goodIn_r _ [27, 11, 12, 36, 37] (by decide +kernel) (by decide +kernel)
set_option maxRecDepth 20000 in
theorem gX2_mark_X1_append : GoodIn wsX2_mark (wsV RX2 149 RX1 yX1_append wsX1_append) := goodIn_app (goodIn_of _ (by decide +kernel)) ggX2_mark_X1_append
theorem dX2_mark_0 : decode cX2_mark 0 = .ok (.aload_n 0, 1) := by decide +kernel
theorem dX2_mark_1 : decode cX2_mark 1 = .ok (.getfield 24, 3) := by decide +kernel
theorem dX2_mark_4 : decode cX2_mark 4 = .ok (.iload_n 1, 1) := by decide +kernel
theorem dX2_mark_5 : decode cX2_mark 5 = .ok (.invokevirtual 143, 3) := by decide +kernel
theorem dX2_mark_8 : decode cX2_mark 8 = .ok (.ifCond .eq 5, 3) := by decide +kernel
theorem dX2_mark_11 : decode cX2_mark 11 = .ok (.iconst 0, 1) := by decide +kernel
theorem dX2_mark_12 : decode cX2_mark 12 = .ok (.ireturn, 1) := by decide +kernel
theorem dX2_mark_13 : decode cX2_mark 13 = .ok (.aload_n 0, 1) := by decide +kernel
theorem dX2_mark_14 : decode cX2_mark 14 = .ok (.iconst 1, 1) := by decide +kernel
theorem dX2_mark_15 : decode cX2_mark 15 = .ok (.invokevirtual 146, 3) := by decide +kernel
theorem dX2_mark_18 : decode cX2_mark 18 = .ok (.aload_n 0, 1) := by decide +kernel
theorem dX2_mark_19 : decode cX2_mark 19 = .ok (.getfield 24, 3) := by decide +kernel
theorem dX2_mark_22 : decode cX2_mark 22 = .ok (.iload_n 1, 1) := by decide +kernel
theorem dX2_mark_23 : decode cX2_mark 23 = .ok (.invokevirtual 149, 3) := by decide +kernel
theorem dX2_mark_26 : decode cX2_mark 26 = .ok (.iconst 1, 1) := by decide +kernel
theorem dX2_mark_27 : decode cX2_mark 27 = .ok (.ireturn, 1) := by decide +kernel
set_option maxRecDepth 20000 in
theorem ggX2_unmark_X1_placeOf : GoodIn wsX2_unmark wsX1_placeOf := goodIn_r _ [6, 7, 8, 29, 30] (by decide +kernel) (by decide +kernel)
set_option maxRecDepth 20000 in
theorem gX2_unmark_X1_placeOf : GoodIn wsX2_unmark (wsV RX2 151 RX1 yX1_placeOf wsX1_placeOf) := goodIn_app (goodIn_of _ (by decide +kernel)) ggX2_unmark_X1_placeOf
set_option maxRecDepth 20000 in
theorem ggX2_unmark_X1_cutOut : GoodIn wsX2_unmark wsX1_cutOut := goodIn_r _ [12, 7, 8, 13, 14, 15, 16, 17, 18, 19, 5, 20, 29, 30] (by decide +kernel) (by decide +kernel)
set_option maxRecDepth 20000 in
theorem gX2_unmark_X1_cutOut : GoodIn wsX2_unmark (wsV RX2 152 RX1 yX1_cutOut wsX1_cutOut) := goodIn_app (goodIn_of _ (by decide +kernel)) ggX2_unmark_X1_cutOut
theorem dX2_unmark_0 : decode cX2_unmark 0 = .ok (.aload_n 0, 1) := by decide +kernel
theorem dX2_unmark_1 : decode cX2_unmark 1 = .ok (.getfield 24, 3) := by decide +kernel
theorem dX2_unmark_4 : decode cX2_unmark 4 = .ok (.iload_n 1, 1) := by decide +kernel
theorem dX2_unmark_5 : decode cX2_unmark 5 = .ok (.invokevirtual 151, 3) := by decide +kernel
theorem dX2_unmark_8 : decode cX2_unmark 8 = .ok (.istore_n 2, 1) := by decide +kernel
theorem dX2_unmark_9 : decode cX2_unmark 9 = .ok (.aload_n 0, 1) := by decide +kernel
theorem dX2_unmark_10 : decode cX2_unmark 10 = .ok (.getfield 24, 3) := by decide +kernel
theorem dX2_unmark_13 : decode cX2_unmark 13 = .ok (.iload_n 2, 1) := by decide +kernel
theorem dX2_unmark_14 : decode cX2_unmark 14 = .ok (.invokevirtual 152, 3) := by decide +kernel
theorem dX2_unmark_17 : decode cX2_unmark 17 = .ok (.iload_n 2, 1) := by decide +kernel
theorem dX2_unmark_18 : decode cX2_unmark 18 = .ok (.iconst (-1), 1) := by decide +kernel
theorem dX2_unmark_19 : decode cX2_unmark 19 = .ok (.if_icmp .eq 7, 3) := by decide +kernel
theorem dX2_unmark_22 : decode cX2_unmark 22 = .ok (.iconst 1, 1) := by decide +kernel
theorem dX2_unmark_23 : decode cX2_unmark 23 = .ok (.goto 4, 3) := by decide +kernel
theorem dX2_unmark_26 : decode cX2_unmark 26 = .ok (.iconst 0, 1) := by decide +kernel
theorem dX2_unmark_27 : decode cX2_unmark 27 = .ok (.ireturn, 1) := by decide +kernel
set_option maxRecDepth 20000 in
theorem ggX2_isMarked_X1_has : GoodIn wsX2_isMarked wsX1_has := goodIn_r _ [6, 7, 8, 9, 5, 10, 11, 12, 21, 22] (by decide +kernel) (by decide +kernel)
set_option maxRecDepth 20000 in
theorem gX2_isMarked_X1_has : GoodIn wsX2_isMarked (wsV RX2 143 RX1 yX1_has wsX1_has) := goodIn_app (goodIn_of _ (by decide +kernel)) ggX2_isMarked_X1_has
theorem dX2_isMarked_0 : decode cX2_isMarked 0 = .ok (.aload_n 0, 1) := by decide +kernel
theorem dX2_isMarked_1 : decode cX2_isMarked 1 = .ok (.getfield 24, 3) := by decide +kernel
theorem dX2_isMarked_4 : decode cX2_isMarked 4 = .ok (.iload_n 1, 1) := by decide +kernel
theorem dX2_isMarked_5 : decode cX2_isMarked 5 = .ok (.invokevirtual 143, 3) := by decide +kernel
theorem dX2_isMarked_8 : decode cX2_isMarked 8 = .ok (.ireturn, 1) := by decide +kernel
set_option maxRecDepth 20000 in
theorem ggX2_marked_X1_held : GoodIn wsX2_marked wsX1_held := goodIn_r _ [6, 7, 16, 17] (by decide +kernel) (by decide +kernel)
set_option maxRecDepth 20000 in
theorem gX2_marked_X1_held : GoodIn wsX2_marked (wsV RX2 153 RX1 yX1_held wsX1_held) := goodIn_app (goodIn_of _ (by decide +kernel)) ggX2_marked_X1_held
theorem dX2_marked_0 : decode cX2_marked 0 = .ok (.aload_n 0, 1) := by decide +kernel
theorem dX2_marked_1 : decode cX2_marked 1 = .ok (.getfield 24, 3) := by decide +kernel
theorem dX2_marked_4 : decode cX2_marked 4 = .ok (.invokevirtual 153, 3) := by decide +kernel
theorem dX2_marked_7 : decode cX2_marked 7 = .ok (.ireturn, 1) := by decide +kernel
set_option maxRecDepth 20000 in
theorem ggX2_markKeys_X2_keysWithoutMark : GoodIn wsX2_markKeys wsX2_keysWithoutMark := goodIn_r _ [7, 1, 2, 8, 9, 10, 11, 12, 13, 14, 15, 16, 17, 18, 19, 20, 21, 22, 23, 24, 25, 26, 27, 28, 29, 30, 31, 32, 33, 34, 35, 36, 37, 38, 39, 40, 52, 53, 54, 55, 56, 57, 58, 59, 60, 61, 62, 63] (by decide +kernel) (by decide +kernel)
set_option maxRecDepth 20000 in
theorem gX2_markKeys_X2_keysWithoutMark : GoodIn wsX2_markKeys (wsV RX2 154 RX2 yX2_keysWithoutMark wsX2_keysWithoutMark) := goodIn_app (goodIn_of _ (by decide +kernel)) ggX2_markKeys_X2_keysWithoutMark
set_option maxRecDepth 20000 in
theorem ggX2_markKeys_X2_checkMarksTake : GoodIn wsX2_markKeys wsX2_checkMarksTake := goodIn_ca (goodIn_r _ [44, 45, 46, 2, 47, 15, 16, 17, 18, 19, 52, 53, 54, 55, 56, 57, 58, 59, 62, 63] (by decide +kernel) (by decide +kernel)) (goodIn_sub (fun _ h => List.mem_cons_of_mem _ (List.mem_append_right _ h)) (by decide +kernel))
set_option maxRecDepth 20000 in
theorem gX2_markKeys_X2_checkMarksTake : GoodIn wsX2_markKeys (wsV RX2 146 RX2 yX2_checkMarksTake wsX2_checkMarksTake) := goodIn_app (goodIn_of _ (by decide +kernel)) ggX2_markKeys_X2_checkMarksTake
set_option maxRecDepth 20000 in
theorem ggX2_markKeys_X0_held : GoodIn wsX2_markKeys wsX0_held := goodIn_r _ [12, 13, 14, 15, 16, 17, 18, 19, 60, 61, 62, 63] (by decide +kernel) (by decide +kernel)
set_option maxRecDepth 20000 in
theorem gX2_markKeys_X0_held : GoodIn wsX2_markKeys (wsV RX2 102 RX0 yX0_held wsX0_held) := goodIn_app (goodIn_of _ (by decide +kernel)) ggX2_markKeys_X0_held
set_option maxRecDepth 20000 in
theorem ggX2_markKeys_X0_keyIn : GoodIn wsX2_markKeys wsX0_keyIn := goodIn_r _ [23, 13, 24, 25, 26, 17, 27, 28, 29, 30, 31, 32, 19, 60, 61, 62, 63] (by decide +kernel) (by decide +kernel)
set_option maxRecDepth 20000 in
theorem gX2_markKeys_X0_keyIn : GoodIn wsX2_markKeys (wsV RX2 109 RX0 yX0_keyIn wsX0_keyIn) := goodIn_app (goodIn_of _ (by decide +kernel)) ggX2_markKeys_X0_keyIn
set_option maxRecDepth 20000 in
theorem ggX2_markKeys_X1_has : GoodIn wsX2_markKeys wsX1_has := goodIn_r _ [36, 37, 38, 39, 17, 40, 19, 28, 62, 63] (by decide +kernel) (by decide +kernel)
set_option maxRecDepth 20000 in
theorem gX2_markKeys_X1_has : GoodIn wsX2_markKeys (wsV RX2 143 RX1 yX1_has wsX1_has) := goodIn_app (goodIn_of _ (by decide +kernel)) ggX2_markKeys_X1_has
set_option maxRecDepth 20000 in
theorem ggX2_markKeys_X1_append : GoodIn wsX2_markKeys wsX1_append := goodIn_r _ [51, 19, 28, 62, 63] (by decide +kernel) (by decide +kernel)
set_option maxRecDepth 20000 in
theorem gX2_markKeys_X1_append : GoodIn wsX2_markKeys (wsV RX2 149 RX1 yX1_append wsX1_append) := goodIn_app (goodIn_of _ (by decide +kernel)) ggX2_markKeys_X1_append
set_option maxRecDepth 20000 in
theorem ggX2_markKeys_X1_held : GoodIn wsX2_markKeys wsX1_held := goodIn_r _ [18, 19, 62, 63] (by decide +kernel) (by decide +kernel)
set_option maxRecDepth 20000 in
theorem gX2_markKeys_X1_held : GoodIn wsX2_markKeys (wsV RX2 153 RX1 yX1_held wsX1_held) := goodIn_app (goodIn_of _ (by decide +kernel)) ggX2_markKeys_X1_held
theorem dX2_markKeys_0 : decode cX2_markKeys 0 = .ok (.aload_n 0, 1) := by decide +kernel
theorem dX2_markKeys_1 : decode cX2_markKeys 1 = .ok (.aload_n 0, 1) := by decide +kernel
theorem dX2_markKeys_2 : decode cX2_markKeys 2 = .ok (.invokevirtual 154, 3) := by decide +kernel
theorem dX2_markKeys_5 : decode cX2_markKeys 5 = .ok (.invokevirtual 146, 3) := by decide +kernel
theorem dX2_markKeys_8 : decode cX2_markKeys 8 = .ok (.iconst 0, 1) := by decide +kernel
theorem dX2_markKeys_9 : decode cX2_markKeys 9 = .ok (.istore_n 1, 1) := by decide +kernel
theorem dX2_markKeys_10 : decode cX2_markKeys 10 = .ok (.iload_n 1, 1) := by decide +kernel
theorem dX2_markKeys_11 : decode cX2_markKeys 11 = .ok (.aload_n 0, 1) := by decide +kernel
theorem dX2_markKeys_12 : decode cX2_markKeys 12 = .ok (.getfield 14, 3) := by decide +kernel
theorem dX2_markKeys_15 : decode cX2_markKeys 15 = .ok (.invokevirtual 102, 3) := by decide +kernel
theorem dX2_markKeys_18 : decode cX2_markKeys 18 = .ok (.if_icmp .ge 37, 3) := by decide +kernel
theorem dX2_markKeys_21 : decode cX2_markKeys 21 = .ok (.aload_n 0, 1) := by decide +kernel
theorem dX2_markKeys_22 : decode cX2_markKeys 22 = .ok (.getfield 14, 3) := by decide +kernel
theorem dX2_markKeys_25 : decode cX2_markKeys 25 = .ok (.iload_n 1, 1) := by decide +kernel
theorem dX2_markKeys_26 : decode cX2_markKeys 26 = .ok (.invokevirtual 109, 3) := by decide +kernel
theorem dX2_markKeys_29 : decode cX2_markKeys 29 = .ok (.istore_n 2, 1) := by decide +kernel
theorem dX2_markKeys_30 : decode cX2_markKeys 30 = .ok (.aload_n 0, 1) := by decide +kernel
theorem dX2_markKeys_31 : decode cX2_markKeys 31 = .ok (.getfield 24, 3) := by decide +kernel
theorem dX2_markKeys_34 : decode cX2_markKeys 34 = .ok (.iload_n 2, 1) := by decide +kernel
theorem dX2_markKeys_35 : decode cX2_markKeys 35 = .ok (.invokevirtual 143, 3) := by decide +kernel
theorem dX2_markKeys_38 : decode cX2_markKeys 38 = .ok (.ifCond .ne 11, 3) := by decide +kernel
theorem dX2_markKeys_41 : decode cX2_markKeys 41 = .ok (.aload_n 0, 1) := by decide +kernel
theorem dX2_markKeys_42 : decode cX2_markKeys 42 = .ok (.getfield 24, 3) := by decide +kernel
theorem dX2_markKeys_45 : decode cX2_markKeys 45 = .ok (.iload_n 2, 1) := by decide +kernel
theorem dX2_markKeys_46 : decode cX2_markKeys 46 = .ok (.invokevirtual 149, 3) := by decide +kernel
theorem dX2_markKeys_49 : decode cX2_markKeys 49 = .ok (.iinc 1 1, 3) := by decide +kernel
theorem dX2_markKeys_52 : decode cX2_markKeys 52 = .ok (.goto (-42), 3) := by decide +kernel
theorem dX2_markKeys_55 : decode cX2_markKeys 55 = .ok (.aload_n 0, 1) := by decide +kernel
theorem dX2_markKeys_56 : decode cX2_markKeys 56 = .ok (.getfield 24, 3) := by decide +kernel
theorem dX2_markKeys_59 : decode cX2_markKeys 59 = .ok (.invokevirtual 153, 3) := by decide +kernel
theorem dX2_markKeys_62 : decode cX2_markKeys 62 = .ok (.ireturn, 1) := by decide +kernel
set_option maxRecDepth 20000 in
theorem ggX2_unmarkOthers_X1_held : GoodIn wsX2_unmarkOthers wsX1_held := goodIn_r _ [7, 8, 48, 49] (by decide +kernel) (by decide +kernel)
set_option maxRecDepth 20000 in
theorem gX2_unmarkOthers_X1_held : GoodIn wsX2_unmarkOthers (wsV RX2 153 RX1 yX1_held wsX1_held) := goodIn_app (goodIn_of _ (by decide +kernel)) ggX2_unmarkOthers_X1_held
set_option maxRecDepth 20000 in
theorem ggX2_unmarkOthers_X1_at : GoodIn wsX2_unmarkOthers wsX1_at := goodIn_r _ [12, 13, 14, 15, 16, 6, 17, 8, 48, 49] (by decide +kernel) (by decide +kernel)
set_option maxRecDepth 20000 in
theorem gX2_unmarkOthers_X1_at : GoodIn wsX2_unmarkOthers (wsV RX2 157 RX1 yX1_at wsX1_at) := goodIn_app (goodIn_of _ (by decide +kernel)) ggX2_unmarkOthers_X1_at
set_option maxRecDepth 20000 in
theorem ggX2_unmarkOthers_X0_hasKey : GoodIn wsX2_unmarkOthers wsX0_hasKey := goodIn_r _ [22, 23, 24, 25, 26, 6, 27, 28, 29, 30, 31, 8, 13, 50, 51, 48, 49] (by decide +kernel) (by decide +kernel)
set_option maxRecDepth 20000 in
theorem gX2_unmarkOthers_X0_hasKey : GoodIn wsX2_unmarkOthers (wsV RX2 71 RX0 yX0_hasKey wsX0_hasKey) := goodIn_app (goodIn_of _ (by decide +kernel)) ggX2_unmarkOthers_X0_hasKey
set_option maxRecDepth 20000 in
theorem ggX2_unmarkOthers_X1_cutOut : GoodIn wsX2_unmarkOthers wsX1_cutOut := goodIn_r _ [35, 8, 13, 36, 37, 38, 39, 14, 15, 16, 6, 17, 48, 49] (by decide +kernel) (by decide +kernel)
set_option maxRecDepth 20000 in
theorem gX2_unmarkOthers_X1_cutOut : GoodIn wsX2_unmarkOthers (wsV RX2 152 RX1 yX1_cutOut wsX1_cutOut) := goodIn_app (goodIn_of _ (by decide +kernel)) ggX2_unmarkOthers_X1_cutOut
theorem dX2_unmarkOthers_0 : decode cX2_unmarkOthers 0 = .ok (.aload_n 0, 1) := by decide +kernel
theorem dX2_unmarkOthers_1 : decode cX2_unmarkOthers 1 = .ok (.getfield 24, 3) := by decide +kernel
theorem dX2_unmarkOthers_4 : decode cX2_unmarkOthers 4 = .ok (.invokevirtual 153, 3) := by decide +kernel
theorem dX2_unmarkOthers_7 : decode cX2_unmarkOthers 7 = .ok (.istore_n 1, 1) := by decide +kernel
theorem dX2_unmarkOthers_8 : decode cX2_unmarkOthers 8 = .ok (.iload_n 1, 1) := by decide +kernel
theorem dX2_unmarkOthers_9 : decode cX2_unmarkOthers 9 = .ok (.iconst 1, 1) := by decide +kernel
theorem dX2_unmarkOthers_10 : decode cX2_unmarkOthers 10 = .ok (.isub, 1) := by decide +kernel
theorem dX2_unmarkOthers_11 : decode cX2_unmarkOthers 11 = .ok (.istore_n 2, 1) := by decide +kernel
theorem dX2_unmarkOthers_12 : decode cX2_unmarkOthers 12 = .ok (.iload_n 2, 1) := by decide +kernel
theorem dX2_unmarkOthers_13 : decode cX2_unmarkOthers 13 = .ok (.ifCond .lt 35, 3) := by decide +kernel
theorem dX2_unmarkOthers_16 : decode cX2_unmarkOthers 16 = .ok (.aload_n 0, 1) := by decide +kernel
theorem dX2_unmarkOthers_17 : decode cX2_unmarkOthers 17 = .ok (.getfield 14, 3) := by decide +kernel
theorem dX2_unmarkOthers_20 : decode cX2_unmarkOthers 20 = .ok (.aload_n 0, 1) := by decide +kernel
theorem dX2_unmarkOthers_21 : decode cX2_unmarkOthers 21 = .ok (.getfield 24, 3) := by decide +kernel
theorem dX2_unmarkOthers_24 : decode cX2_unmarkOthers 24 = .ok (.iload_n 2, 1) := by decide +kernel
theorem dX2_unmarkOthers_25 : decode cX2_unmarkOthers 25 = .ok (.invokevirtual 157, 3) := by decide +kernel
theorem dX2_unmarkOthers_28 : decode cX2_unmarkOthers 28 = .ok (.invokevirtual 71, 3) := by decide +kernel
theorem dX2_unmarkOthers_31 : decode cX2_unmarkOthers 31 = .ok (.ifCond .ne 11, 3) := by decide +kernel
theorem dX2_unmarkOthers_34 : decode cX2_unmarkOthers 34 = .ok (.aload_n 0, 1) := by decide +kernel
theorem dX2_unmarkOthers_35 : decode cX2_unmarkOthers 35 = .ok (.getfield 24, 3) := by decide +kernel
theorem dX2_unmarkOthers_38 : decode cX2_unmarkOthers 38 = .ok (.iload_n 2, 1) := by decide +kernel
theorem dX2_unmarkOthers_39 : decode cX2_unmarkOthers 39 = .ok (.invokevirtual 152, 3) := by decide +kernel
theorem dX2_unmarkOthers_42 : decode cX2_unmarkOthers 42 = .ok (.iinc 2 (-1), 3) := by decide +kernel
theorem dX2_unmarkOthers_45 : decode cX2_unmarkOthers 45 = .ok (.goto (-33), 3) := by decide +kernel
theorem dX2_unmarkOthers_48 : decode cX2_unmarkOthers 48 = .ok (.iload_n 1, 1) := by decide +kernel
theorem dX2_unmarkOthers_49 : decode cX2_unmarkOthers 49 = .ok (.aload_n 0, 1) := by decide +kernel
theorem dX2_unmarkOthers_50 : decode cX2_unmarkOthers 50 = .ok (.getfield 24, 3) := by decide +kernel
theorem dX2_unmarkOthers_53 : decode cX2_unmarkOthers 53 = .ok (.invokevirtual 153, 3) := by decide +kernel
theorem dX2_unmarkOthers_56 : decode cX2_unmarkOthers 56 = .ok (.isub, 1) := by decide +kernel
theorem dX2_unmarkOthers_57 : decode cX2_unmarkOthers 57 = .ok (.ireturn, 1) := by decide +kernel
set_option maxRecDepth 20000 in
theorem ggX2_dropMarked_X0_held : GoodIn wsX2_dropMarked wsX0_held := goodIn_r _ [7, 8, 9, 10, 11, 12, 13, 14, 57, 58, 59, 60] (by decide +kernel) (by decide +kernel)
set_option maxRecDepth 20000 in
theorem gX2_dropMarked_X0_held : GoodIn wsX2_dropMarked (wsV RX2 102 RX0 yX0_held wsX0_held) := goodIn_app (goodIn_of _ (by decide +kernel)) ggX2_dropMarked_X0_held
set_option maxRecDepth 20000 in
theorem ggX2_dropMarked_X0_keyIn : GoodIn wsX2_dropMarked wsX0_keyIn := goodIn_r _ [18, 8, 19, 20, 21, 12, 22, 23, 24, 25, 26, 27, 14, 57, 58, 59, 60] (by decide +kernel) (by decide +kernel)
set_option maxRecDepth 20000 in
theorem gX2_dropMarked_X0_keyIn : GoodIn wsX2_dropMarked (wsV RX2 109 RX0 yX0_keyIn wsX0_keyIn) := goodIn_app (goodIn_of _ (by decide +kernel)) ggX2_dropMarked_X0_keyIn
set_option maxRecDepth 20000 in
theorem ggX2_dropMarked_X1_has : GoodIn wsX2_dropMarked wsX1_has := goodIn_r _ [31, 32, 33, 34, 12, 35, 14, 23, 59, 60] (by decide +kernel) (by decide +kernel)
set_option maxRecDepth 20000 in
theorem gX2_dropMarked_X1_has : GoodIn wsX2_dropMarked (wsV RX2 143 RX1 yX1_has wsX1_has) := goodIn_app (goodIn_of _ (by decide +kernel)) ggX2_dropMarked_X1_has
set_option maxRecDepth 20000 in
theorem ggX2_dropMarked_X0_cutOut : GoodIn wsX2_dropMarked wsX0_cutOut := goodIn_r _ [39, 8, 40, 41, 42, 43, 12, 44, 14, 23, 45, 46, 47, 48, 24, 25, 26, 27, 57, 58, 59, 60] (by decide +kernel) (by decide +kernel)
set_option maxRecDepth 20000 in
theorem gX2_dropMarked_X0_cutOut : GoodIn wsX2_dropMarked (wsV RX2 68 RX0 yX0_cutOut wsX0_cutOut) := goodIn_app (goodIn_of _ (by decide +kernel)) ggX2_dropMarked_X0_cutOut
theorem dX2_dropMarked_0 : decode cX2_dropMarked 0 = .ok (.aload_n 0, 1) := by decide +kernel
theorem dX2_dropMarked_1 : decode cX2_dropMarked 1 = .ok (.getfield 14, 3) := by decide +kernel
theorem dX2_dropMarked_4 : decode cX2_dropMarked 4 = .ok (.invokevirtual 102, 3) := by decide +kernel
theorem dX2_dropMarked_7 : decode cX2_dropMarked 7 = .ok (.istore_n 1, 1) := by decide +kernel
theorem dX2_dropMarked_8 : decode cX2_dropMarked 8 = .ok (.iload_n 1, 1) := by decide +kernel
theorem dX2_dropMarked_9 : decode cX2_dropMarked 9 = .ok (.iconst 1, 1) := by decide +kernel
theorem dX2_dropMarked_10 : decode cX2_dropMarked 10 = .ok (.isub, 1) := by decide +kernel
theorem dX2_dropMarked_11 : decode cX2_dropMarked 11 = .ok (.istore_n 2, 1) := by decide +kernel
theorem dX2_dropMarked_12 : decode cX2_dropMarked 12 = .ok (.iload_n 2, 1) := by decide +kernel
theorem dX2_dropMarked_13 : decode cX2_dropMarked 13 = .ok (.ifCond .lt 35, 3) := by decide +kernel
theorem dX2_dropMarked_16 : decode cX2_dropMarked 16 = .ok (.aload_n 0, 1) := by decide +kernel
theorem dX2_dropMarked_17 : decode cX2_dropMarked 17 = .ok (.getfield 24, 3) := by decide +kernel
theorem dX2_dropMarked_20 : decode cX2_dropMarked 20 = .ok (.aload_n 0, 1) := by decide +kernel
theorem dX2_dropMarked_21 : decode cX2_dropMarked 21 = .ok (.getfield 14, 3) := by decide +kernel
theorem dX2_dropMarked_24 : decode cX2_dropMarked 24 = .ok (.iload_n 2, 1) := by decide +kernel
theorem dX2_dropMarked_25 : decode cX2_dropMarked 25 = .ok (.invokevirtual 109, 3) := by decide +kernel
theorem dX2_dropMarked_28 : decode cX2_dropMarked 28 = .ok (.invokevirtual 143, 3) := by decide +kernel
theorem dX2_dropMarked_31 : decode cX2_dropMarked 31 = .ok (.ifCond .eq 11, 3) := by decide +kernel
theorem dX2_dropMarked_34 : decode cX2_dropMarked 34 = .ok (.aload_n 0, 1) := by decide +kernel
theorem dX2_dropMarked_35 : decode cX2_dropMarked 35 = .ok (.getfield 14, 3) := by decide +kernel
theorem dX2_dropMarked_38 : decode cX2_dropMarked 38 = .ok (.iload_n 2, 1) := by decide +kernel
theorem dX2_dropMarked_39 : decode cX2_dropMarked 39 = .ok (.invokevirtual 68, 3) := by decide +kernel
theorem dX2_dropMarked_42 : decode cX2_dropMarked 42 = .ok (.iinc 2 (-1), 3) := by decide +kernel
theorem dX2_dropMarked_45 : decode cX2_dropMarked 45 = .ok (.goto (-33), 3) := by decide +kernel
theorem dX2_dropMarked_48 : decode cX2_dropMarked 48 = .ok (.iload_n 1, 1) := by decide +kernel
theorem dX2_dropMarked_49 : decode cX2_dropMarked 49 = .ok (.aload_n 0, 1) := by decide +kernel
theorem dX2_dropMarked_50 : decode cX2_dropMarked 50 = .ok (.getfield 14, 3) := by decide +kernel
theorem dX2_dropMarked_53 : decode cX2_dropMarked 53 = .ok (.invokevirtual 102, 3) := by decide +kernel
theorem dX2_dropMarked_56 : decode cX2_dropMarked 56 = .ok (.isub, 1) := by decide +kernel
theorem dX2_dropMarked_57 : decode cX2_dropMarked 57 = .ok (.ireturn, 1) := by decide +kernel
set_option maxRecDepth 20000 in
theorem ggX2_checkMarksTake_X1_held : GoodIn wsX2_checkMarksTake wsX1_held := goodIn_r _ [8, 9, 18, 19] (by decide +kernel) (by decide +kernel)
set_option maxRecDepth 20000 in
theorem gX2_checkMarksTake_X1_held : GoodIn wsX2_checkMarksTake (wsV RX2 153 RX1 yX1_held wsX1_held) := goodIn_app (goodIn_of _ (by decide +kernel)) ggX2_checkMarksTake_X1_held
theorem dX2_checkMarksTake_0 : decode cX2_checkMarksTake 0 = .ok (.iload_n 1, 1) := by decide +kernel
theorem dX2_checkMarksTake_1 : decode cX2_checkMarksTake 1 = .ok (.sipush 200, 3) := by decide +kernel
theorem dX2_checkMarksTake_4 : decode cX2_checkMarksTake 4 = .ok (.aload_n 0, 1) := by decide +kernel
theorem dX2_checkMarksTake_5 : decode cX2_checkMarksTake 5 = .ok (.getfield 24, 3) := by decide +kernel
theorem dX2_checkMarksTake_8 : decode cX2_checkMarksTake 8 = .ok (.invokevirtual 153, 3) := by decide +kernel
theorem dX2_checkMarksTake_11 : decode cX2_checkMarksTake 11 = .ok (.isub, 1) := by decide +kernel
theorem dX2_checkMarksTake_12 : decode cX2_checkMarksTake 12 = .ok (.if_icmp .le 13, 3) := by decide +kernel
theorem dX2_checkMarksTake_15 : decode cX2_checkMarksTake 15 = .ok (.new 119, 3) := by decide +kernel
theorem dX2_checkMarksTake_18 : decode cX2_checkMarksTake 18 = .ok (.dup, 1) := by decide +kernel
theorem dX2_checkMarksTake_19 : decode cX2_checkMarksTake 19 = .ok (.ldc 160, 2) := by decide +kernel
theorem dX2_checkMarksTake_21 : decode cX2_checkMarksTake 21 = .ok (.invokespecial 123, 3) := by decide +kernel
theorem dX2_checkMarksTake_24 : decode cX2_checkMarksTake 24 = .ok (.athrow, 1) := by decide +kernel
theorem dX2_checkMarksTake_25 : decode cX2_checkMarksTake 25 = .ok (.return_, 1) := by decide +kernel
set_option maxRecDepth 20000 in
theorem ggX2_keysWithoutMark_X0_held : GoodIn wsX2_keysWithoutMark wsX0_held := goodIn_r _ [7, 8, 9, 10, 11, 12, 13, 14, 44, 45, 46, 47] (by decide +kernel) (by decide +kernel)
set_option maxRecDepth 20000 in
theorem gX2_keysWithoutMark_X0_held : GoodIn wsX2_keysWithoutMark (wsV RX2 102 RX0 yX0_held wsX0_held) := goodIn_app (goodIn_of _ (by decide +kernel)) ggX2_keysWithoutMark_X0_held
set_option maxRecDepth 20000 in
theorem ggX2_keysWithoutMark_X0_keyIn : GoodIn wsX2_keysWithoutMark wsX0_keyIn := goodIn_r _ [18, 8, 19, 20, 21, 12, 22, 23, 24, 25, 26, 27, 14, 44, 45, 46, 47] (by decide +kernel) (by decide +kernel)
set_option maxRecDepth 20000 in
theorem gX2_keysWithoutMark_X0_keyIn : GoodIn wsX2_keysWithoutMark (wsV RX2 109 RX0 yX0_keyIn wsX0_keyIn) := goodIn_app (goodIn_of _ (by decide +kernel)) ggX2_keysWithoutMark_X0_keyIn
set_option maxRecDepth 20000 in
theorem ggX2_keysWithoutMark_X1_has : GoodIn wsX2_keysWithoutMark wsX1_has := goodIn_r _ [31, 32, 33, 34, 12, 35, 14, 23, 46, 47] (by decide +kernel) (by decide +kernel)
set_option maxRecDepth 20000 in
theorem gX2_keysWithoutMark_X1_has : GoodIn wsX2_keysWithoutMark (wsV RX2 143 RX1 yX1_has wsX1_has) := goodIn_app (goodIn_of _ (by decide +kernel)) ggX2_keysWithoutMark_X1_has
theorem dX2_keysWithoutMark_0 : decode cX2_keysWithoutMark 0 = .ok (.iconst 0, 1) := by decide +kernel
theorem dX2_keysWithoutMark_1 : decode cX2_keysWithoutMark 1 = .ok (.istore_n 1, 1) := by decide +kernel
theorem dX2_keysWithoutMark_2 : decode cX2_keysWithoutMark 2 = .ok (.iconst 0, 1) := by decide +kernel
theorem dX2_keysWithoutMark_3 : decode cX2_keysWithoutMark 3 = .ok (.istore_n 2, 1) := by decide +kernel
theorem dX2_keysWithoutMark_4 : decode cX2_keysWithoutMark 4 = .ok (.iload_n 2, 1) := by decide +kernel
theorem dX2_keysWithoutMark_5 : decode cX2_keysWithoutMark 5 = .ok (.aload_n 0, 1) := by decide +kernel
theorem dX2_keysWithoutMark_6 : decode cX2_keysWithoutMark 6 = .ok (.getfield 14, 3) := by decide +kernel
theorem dX2_keysWithoutMark_9 : decode cX2_keysWithoutMark 9 = .ok (.invokevirtual 102, 3) := by decide +kernel
theorem dX2_keysWithoutMark_12 : decode cX2_keysWithoutMark 12 = .ok (.if_icmp .ge 30, 3) := by decide +kernel
theorem dX2_keysWithoutMark_15 : decode cX2_keysWithoutMark 15 = .ok (.aload_n 0, 1) := by decide +kernel
theorem dX2_keysWithoutMark_16 : decode cX2_keysWithoutMark 16 = .ok (.getfield 24, 3) := by decide +kernel
theorem dX2_keysWithoutMark_19 : decode cX2_keysWithoutMark 19 = .ok (.aload_n 0, 1) := by decide +kernel
theorem dX2_keysWithoutMark_20 : decode cX2_keysWithoutMark 20 = .ok (.getfield 14, 3) := by decide +kernel
theorem dX2_keysWithoutMark_23 : decode cX2_keysWithoutMark 23 = .ok (.iload_n 2, 1) := by decide +kernel
theorem dX2_keysWithoutMark_24 : decode cX2_keysWithoutMark 24 = .ok (.invokevirtual 109, 3) := by decide +kernel
theorem dX2_keysWithoutMark_27 : decode cX2_keysWithoutMark 27 = .ok (.invokevirtual 143, 3) := by decide +kernel
theorem dX2_keysWithoutMark_30 : decode cX2_keysWithoutMark 30 = .ok (.ifCond .ne 6, 3) := by decide +kernel
theorem dX2_keysWithoutMark_33 : decode cX2_keysWithoutMark 33 = .ok (.iinc 1 1, 3) := by decide +kernel
theorem dX2_keysWithoutMark_36 : decode cX2_keysWithoutMark 36 = .ok (.iinc 2 1, 3) := by decide +kernel
theorem dX2_keysWithoutMark_39 : decode cX2_keysWithoutMark 39 = .ok (.goto (-35), 3) := by decide +kernel
theorem dX2_keysWithoutMark_42 : decode cX2_keysWithoutMark 42 = .ok (.iload_n 1, 1) := by decide +kernel
theorem dX2_keysWithoutMark_43 : decode cX2_keysWithoutMark 43 = .ok (.ireturn, 1) := by decide +kernel
set_option maxRecDepth 20000 in
theorem ggX2_room_X2_dropWhatIsOver : GoodIn wsX2_room wsX2_dropWhatIsOver := goodIn_r _ [8, 9, 3, 10, 11, 12, 13, 14, 15, 16, 17, 18, 19, 20, 21, 22, 23, 24, 25, 26, 27, 28, 29, 7, 30, 31, 32, 33, 34, 35, 36, 37, 38, 39, 40, 41, 42, 43, 44, 45, 46, 47, 48, 49, 50, 51, 52, 53, 54, 55, 56, 57, 58, 59, 60, 61, 62] (by decide +kernel) (by decide +kernel)
set_option maxRecDepth 20000 in
theorem gX2_room_X2_dropWhatIsOver : GoodIn wsX2_room (wsV RX2 164 RX2 yX2_dropWhatIsOver wsX2_dropWhatIsOver) := goodIn_app (goodIn_of _ (by decide +kernel)) ggX2_room_X2_dropWhatIsOver
theorem dX2_room_0 : decode cX2_room 0 = .ok (.iload_n 1, 1) := by decide +kernel
theorem dX2_room_1 : decode cX2_room 1 = .ok (.iconst 1, 1) := by decide +kernel
theorem dX2_room_2 : decode cX2_room 2 = .ok (.if_icmp .lt 9, 3) := by decide +kernel
theorem dX2_room_5 : decode cX2_room 5 = .ok (.iload_n 1, 1) := by decide +kernel
theorem dX2_room_6 : decode cX2_room 6 = .ok (.bipush 60, 2) := by decide +kernel
theorem dX2_room_8 : decode cX2_room 8 = .ok (.if_icmp .le 13, 3) := by decide +kernel
theorem dX2_room_11 : decode cX2_room 11 = .ok (.new 88, 3) := by decide +kernel
theorem dX2_room_14 : decode cX2_room 14 = .ok (.dup, 1) := by decide +kernel
theorem dX2_room_15 : decode cX2_room 15 = .ok (.ldc 162, 2) := by decide +kernel
theorem dX2_room_17 : decode cX2_room 17 = .ok (.invokespecial 92, 3) := by decide +kernel
theorem dX2_room_20 : decode cX2_room 20 = .ok (.athrow, 1) := by decide +kernel
theorem dX2_room_21 : decode cX2_room 21 = .ok (.aload_n 0, 1) := by decide +kernel
theorem dX2_room_22 : decode cX2_room 22 = .ok (.iload_n 1, 1) := by decide +kernel
theorem dX2_room_23 : decode cX2_room 23 = .ok (.putfield 34, 3) := by decide +kernel
theorem dX2_room_26 : decode cX2_room 26 = .ok (.aload_n 0, 1) := by decide +kernel
theorem dX2_room_27 : decode cX2_room 27 = .ok (.invokevirtual 164, 3) := by decide +kernel
theorem dX2_room_30 : decode cX2_room 30 = .ok (.ireturn, 1) := by decide +kernel
set_option maxRecDepth 20000 in
theorem ggX2_lay_X0_placeOf : GoodIn wsX2_lay wsX0_placeOf := goodIn_r _ [6, 7, 8, 9, 10, 11, 12, 13, 14, 88, 89, 90, 91] (by decide +kernel) (by decide +kernel)
set_option maxRecDepth 20000 in
theorem gX2_lay_X0_placeOf : GoodIn wsX2_lay (wsV RX2 44 RX0 yX0_placeOf wsX0_placeOf) := goodIn_app (goodIn_of _ (by decide +kernel)) ggX2_lay_X0_placeOf
set_option maxRecDepth 20000 in
theorem ggX2_lay_X0_valueOrNone : GoodIn wsX2_lay wsX0_valueOrNone := goodIn_r _ [18, 19, 20, 21, 22, 23, 11, 24, 14, 25, 26, 27, 28, 13, 88, 89, 90, 91] (by decide +kernel) (by decide +kernel)
set_option maxRecDepth 20000 in
theorem gX2_lay_X0_valueOrNone : GoodIn wsX2_lay (wsV RX2 60 RX0 yX0_valueOrNone wsX0_valueOrNone) := goodIn_app (goodIn_of _ (by decide +kernel)) ggX2_lay_X0_valueOrNone
set_option maxRecDepth 20000 in
theorem ggX2_lay_X2_layLast : GoodIn wsX2_lay wsX2_layLast := goodIn_r _ [33, 34, 1, 35, 36, 37, 38, 32, 39, 40, 41, 42, 5, 43, 7, 20, 44, 45, 46, 11, 47, 13, 14, 48, 49, 50, 51, 25, 26, 27, 28, 52, 53, 54, 55, 56, 57, 58, 59, 60, 61, 62, 63, 64, 65, 66, 67, 68, 69, 70, 71, 72, 73, 74, 75, 76, 77, 78, 79, 80, 81, 82, 83, 84, 85, 86, 87, 88, 89, 90, 91] (by decide +kernel) (by decide +kernel)
set_option maxRecDepth 20000 in
theorem gX2_lay_X2_layLast : GoodIn wsX2_lay (wsV RX2 167 RX2 yX2_layLast wsX2_layLast) := goodIn_app (goodIn_of _ (by decide +kernel)) ggX2_lay_X2_layLast
theorem dX2_lay_0 : decode cX2_lay 0 = .ok (.aload_n 0, 1) := by decide +kernel
theorem dX2_lay_1 : decode cX2_lay 1 = .ok (.getfield 28, 3) := by decide +kernel
theorem dX2_lay_4 : decode cX2_lay 4 = .ok (.iload_n 1, 1) := by decide +kernel
theorem dX2_lay_5 : decode cX2_lay 5 = .ok (.invokevirtual 44, 3) := by decide +kernel
theorem dX2_lay_8 : decode cX2_lay 8 = .ok (.istore_n 3, 1) := by decide +kernel
theorem dX2_lay_9 : decode cX2_lay 9 = .ok (.aload_n 0, 1) := by decide +kernel
theorem dX2_lay_10 : decode cX2_lay 10 = .ok (.getfield 28, 3) := by decide +kernel
theorem dX2_lay_13 : decode cX2_lay 13 = .ok (.iload_n 3, 1) := by decide +kernel
theorem dX2_lay_14 : decode cX2_lay 14 = .ok (.invokevirtual 60, 3) := by decide +kernel
theorem dX2_lay_17 : decode cX2_lay 17 = .ok (.lstore 4, 2) := by decide +kernel
theorem dX2_lay_19 : decode cX2_lay 19 = .ok (.aload_n 0, 1) := by decide +kernel
theorem dX2_lay_20 : decode cX2_lay 20 = .ok (.iload_n 3, 1) := by decide +kernel
theorem dX2_lay_21 : decode cX2_lay 21 = .ok (.iload_n 1, 1) := by decide +kernel
theorem dX2_lay_22 : decode cX2_lay 22 = .ok (.iload_n 2, 1) := by decide +kernel
theorem dX2_lay_23 : decode cX2_lay 23 = .ok (.invokevirtual 167, 3) := by decide +kernel
theorem dX2_lay_26 : decode cX2_lay 26 = .ok (.lload 4, 2) := by decide +kernel
theorem dX2_lay_28 : decode cX2_lay 28 = .ok (.lreturn, 1) := by decide +kernel
set_option maxRecDepth 20000 in
theorem ggX2_layIfAbsent_X0_placeOf : GoodIn wsX2_layIfAbsent wsX0_placeOf := goodIn_r _ [6, 7, 8, 9, 10, 11, 12, 13, 14, 92, 93, 94, 95] (by decide +kernel) (by decide +kernel)
set_option maxRecDepth 20000 in
theorem gX2_layIfAbsent_X0_placeOf : GoodIn wsX2_layIfAbsent (wsV RX2 44 RX0 yX0_placeOf wsX0_placeOf) := goodIn_app (goodIn_of _ (by decide +kernel)) ggX2_layIfAbsent_X0_placeOf
set_option maxRecDepth 20000 in
theorem ggX2_layIfAbsent_X0_valueOrNone : GoodIn wsX2_layIfAbsent wsX0_valueOrNone := goodIn_r _ [18, 19, 20, 21, 22, 23, 11, 24, 14, 25, 26, 27, 28, 13, 92, 93, 94, 95] (by decide +kernel) (by decide +kernel)
set_option maxRecDepth 20000 in
theorem gX2_layIfAbsent_X0_valueOrNone : GoodIn wsX2_layIfAbsent (wsV RX2 60 RX0 yX0_valueOrNone wsX0_valueOrNone) := goodIn_app (goodIn_of _ (by decide +kernel)) ggX2_layIfAbsent_X0_valueOrNone
set_option maxRecDepth 20000 in
theorem ggX2_layIfAbsent_X0_valueOr : GoodIn wsX2_layIfAbsent wsX0_valueOr := goodIn_r _ [32, 20, 21, 22, 23, 11, 24, 14, 25, 26, 27, 28, 13, 92, 93, 94, 95] (by decide +kernel) (by decide +kernel)
set_option maxRecDepth 20000 in
theorem gX2_layIfAbsent_X0_valueOr : GoodIn wsX2_layIfAbsent (wsV RX2 64 RX0 yX0_valueOr wsX0_valueOr) := goodIn_app (goodIn_of _ (by decide +kernel)) ggX2_layIfAbsent_X0_valueOr
set_option maxRecDepth 20000 in
theorem ggX2_layIfAbsent_X2_layLast : GoodIn wsX2_layIfAbsent wsX2_layLast := goodIn_r _ [37, 38, 1, 39, 40, 41, 42, 36, 43, 44, 45, 46, 5, 47, 7, 20, 48, 49, 50, 11, 51, 13, 14, 52, 53, 54, 55, 25, 26, 27, 28, 56, 57, 58, 59, 60, 61, 62, 63, 64, 65, 66, 67, 68, 69, 70, 71, 72, 73, 74, 75, 76, 77, 78, 79, 80, 81, 82, 83, 84, 85, 86, 87, 88, 89, 90, 91, 92, 93, 94, 95] (by decide +kernel) (by decide +kernel)
set_option maxRecDepth 20000 in
theorem gX2_layIfAbsent_X2_layLast : GoodIn wsX2_layIfAbsent (wsV RX2 167 RX2 yX2_layLast wsX2_layLast) := goodIn_app (goodIn_of _ (by decide +kernel)) ggX2_layIfAbsent_X2_layLast
theorem dX2_layIfAbsent_0 : decode cX2_layIfAbsent 0 = .ok (.aload_n 0, 1) := by decide +kernel
theorem dX2_layIfAbsent_1 : decode cX2_layIfAbsent 1 = .ok (.getfield 28, 3) := by decide +kernel
theorem dX2_layIfAbsent_4 : decode cX2_layIfAbsent 4 = .ok (.iload_n 1, 1) := by decide +kernel
theorem dX2_layIfAbsent_5 : decode cX2_layIfAbsent 5 = .ok (.invokevirtual 44, 3) := by decide +kernel
theorem dX2_layIfAbsent_8 : decode cX2_layIfAbsent 8 = .ok (.istore_n 3, 1) := by decide +kernel
theorem dX2_layIfAbsent_9 : decode cX2_layIfAbsent 9 = .ok (.aload_n 0, 1) := by decide +kernel
theorem dX2_layIfAbsent_10 : decode cX2_layIfAbsent 10 = .ok (.getfield 28, 3) := by decide +kernel
theorem dX2_layIfAbsent_13 : decode cX2_layIfAbsent 13 = .ok (.iload_n 3, 1) := by decide +kernel
theorem dX2_layIfAbsent_14 : decode cX2_layIfAbsent 14 = .ok (.invokevirtual 60, 3) := by decide +kernel
theorem dX2_layIfAbsent_17 : decode cX2_layIfAbsent 17 = .ok (.lstore 4, 2) := by decide +kernel
theorem dX2_layIfAbsent_19 : decode cX2_layIfAbsent 19 = .ok (.aload_n 0, 1) := by decide +kernel
theorem dX2_layIfAbsent_20 : decode cX2_layIfAbsent 20 = .ok (.iload_n 3, 1) := by decide +kernel
theorem dX2_layIfAbsent_21 : decode cX2_layIfAbsent 21 = .ok (.iload_n 1, 1) := by decide +kernel
theorem dX2_layIfAbsent_22 : decode cX2_layIfAbsent 22 = .ok (.aload_n 0, 1) := by decide +kernel
theorem dX2_layIfAbsent_23 : decode cX2_layIfAbsent 23 = .ok (.getfield 28, 3) := by decide +kernel
theorem dX2_layIfAbsent_26 : decode cX2_layIfAbsent 26 = .ok (.iload_n 3, 1) := by decide +kernel
theorem dX2_layIfAbsent_27 : decode cX2_layIfAbsent 27 = .ok (.iload_n 2, 1) := by decide +kernel
theorem dX2_layIfAbsent_28 : decode cX2_layIfAbsent 28 = .ok (.invokevirtual 64, 3) := by decide +kernel
theorem dX2_layIfAbsent_31 : decode cX2_layIfAbsent 31 = .ok (.invokevirtual 167, 3) := by decide +kernel
theorem dX2_layIfAbsent_34 : decode cX2_layIfAbsent 34 = .ok (.lload 4, 2) := by decide +kernel
theorem dX2_layIfAbsent_36 : decode cX2_layIfAbsent 36 = .ok (.lreturn, 1) := by decide +kernel
set_option maxRecDepth 20000 in
theorem ggX2_use_X0_placeOf : GoodIn wsX2_use wsX0_placeOf := goodIn_r _ [7, 8, 9, 10, 11, 12, 13, 14, 15, 88, 89, 90, 91] (by decide +kernel) (by decide +kernel)
set_option maxRecDepth 20000 in
theorem gX2_use_X0_placeOf : GoodIn wsX2_use (wsV RX2 44 RX0 yX0_placeOf wsX0_placeOf) := goodIn_app (goodIn_of _ (by decide +kernel)) ggX2_use_X0_placeOf
set_option maxRecDepth 20000 in
theorem ggX2_use_X0_valueIn : GoodIn wsX2_use wsX0_valueIn := goodIn_r _ [19, 20, 21, 22, 23, 12, 24, 15, 25, 26, 27, 28, 14, 88, 89, 90, 91] (by decide +kernel) (by decide +kernel)
set_option maxRecDepth 20000 in
theorem gX2_use_X0_valueIn : GoodIn wsX2_use (wsV RX2 54 RX0 yX0_valueIn wsX0_valueIn) := goodIn_app (goodIn_of _ (by decide +kernel)) ggX2_use_X0_valueIn
set_option maxRecDepth 20000 in
theorem ggX2_use_X2_layLast : GoodIn wsX2_use wsX2_layLast := goodIn_r _ [33, 34, 1, 35, 36, 37, 38, 32, 39, 40, 41, 42, 6, 43, 8, 20, 44, 45, 46, 12, 47, 14, 15, 48, 49, 50, 51, 25, 26, 27, 28, 52, 53, 54, 55, 56, 57, 58, 59, 60, 61, 62, 63, 64, 65, 66, 67, 68, 69, 70, 71, 72, 73, 74, 75, 76, 77, 78, 79, 80, 81, 82, 83, 84, 85, 86, 87, 88, 89, 90, 91] (by decide +kernel) (by decide +kernel)
set_option maxRecDepth 20000 in
theorem gX2_use_X2_layLast : GoodIn wsX2_use (wsV RX2 167 RX2 yX2_layLast wsX2_layLast) := goodIn_app (goodIn_of _ (by decide +kernel)) ggX2_use_X2_layLast
theorem dX2_use_0 : decode cX2_use 0 = .ok (.aload_n 0, 1) := by decide +kernel
theorem dX2_use_1 : decode cX2_use 1 = .ok (.getfield 28, 3) := by decide +kernel
theorem dX2_use_4 : decode cX2_use 4 = .ok (.iload_n 1, 1) := by decide +kernel
theorem dX2_use_5 : decode cX2_use 5 = .ok (.invokevirtual 44, 3) := by decide +kernel
theorem dX2_use_8 : decode cX2_use 8 = .ok (.istore_n 2, 1) := by decide +kernel
theorem dX2_use_9 : decode cX2_use 9 = .ok (.iload_n 2, 1) := by decide +kernel
theorem dX2_use_10 : decode cX2_use 10 = .ok (.iconst (-1), 1) := by decide +kernel
theorem dX2_use_11 : decode cX2_use 11 = .ok (.if_icmp .ne 7, 3) := by decide +kernel
theorem dX2_use_14 : decode cX2_use 14 = .ok (.ldc2_w 52, 3) := by decide +kernel
theorem dX2_use_17 : decode cX2_use 17 = .ok (.lreturn, 1) := by decide +kernel
theorem dX2_use_18 : decode cX2_use 18 = .ok (.aload_n 0, 1) := by decide +kernel
theorem dX2_use_19 : decode cX2_use 19 = .ok (.getfield 28, 3) := by decide +kernel
theorem dX2_use_22 : decode cX2_use 22 = .ok (.iload_n 2, 1) := by decide +kernel
theorem dX2_use_23 : decode cX2_use 23 = .ok (.invokevirtual 54, 3) := by decide +kernel
theorem dX2_use_26 : decode cX2_use 26 = .ok (.istore_n 3, 1) := by decide +kernel
theorem dX2_use_27 : decode cX2_use 27 = .ok (.aload_n 0, 1) := by decide +kernel
theorem dX2_use_28 : decode cX2_use 28 = .ok (.iload_n 2, 1) := by decide +kernel
theorem dX2_use_29 : decode cX2_use 29 = .ok (.iload_n 1, 1) := by decide +kernel
theorem dX2_use_30 : decode cX2_use 30 = .ok (.iload_n 3, 1) := by decide +kernel
theorem dX2_use_31 : decode cX2_use 31 = .ok (.invokevirtual 167, 3) := by decide +kernel
theorem dX2_use_34 : decode cX2_use 34 = .ok (.iload_n 3, 1) := by decide +kernel
theorem dX2_use_35 : decode cX2_use 35 = .ok (.i2l, 1) := by decide +kernel
theorem dX2_use_36 : decode cX2_use 36 = .ok (.lreturn, 1) := by decide +kernel
set_option maxRecDepth 20000 in
theorem ggX2_useOrDefault_X0_placeOf : GoodIn wsX2_useOrDefault wsX0_placeOf := goodIn_r _ [6, 7, 8, 9, 10, 11, 12, 13, 14, 87, 88, 89, 90] (by decide +kernel) (by decide +kernel)
set_option maxRecDepth 20000 in
theorem gX2_useOrDefault_X0_placeOf : GoodIn wsX2_useOrDefault (wsV RX2 44 RX0 yX0_placeOf wsX0_placeOf) := goodIn_app (goodIn_of _ (by decide +kernel)) ggX2_useOrDefault_X0_placeOf
set_option maxRecDepth 20000 in
theorem ggX2_useOrDefault_X0_valueIn : GoodIn wsX2_useOrDefault wsX0_valueIn := goodIn_r _ [18, 19, 20, 21, 22, 11, 23, 14, 24, 25, 26, 27, 13, 87, 88, 89, 90] (by decide +kernel) (by decide +kernel)
set_option maxRecDepth 20000 in
theorem gX2_useOrDefault_X0_valueIn : GoodIn wsX2_useOrDefault (wsV RX2 54 RX0 yX0_valueIn wsX0_valueIn) := goodIn_app (goodIn_of _ (by decide +kernel)) ggX2_useOrDefault_X0_valueIn
set_option maxRecDepth 20000 in
theorem ggX2_useOrDefault_X2_layLast : GoodIn wsX2_useOrDefault wsX2_layLast := goodIn_r _ [32, 33, 1, 34, 35, 36, 37, 31, 38, 39, 40, 41, 5, 42, 7, 19, 43, 44, 45, 11, 46, 13, 14, 47, 48, 49, 50, 24, 25, 26, 27, 51, 52, 53, 54, 55, 56, 57, 58, 59, 60, 61, 62, 63, 64, 65, 66, 67, 68, 69, 70, 71, 72, 73, 74, 75, 76, 77, 78, 79, 80, 81, 82, 83, 84, 85, 86, 87, 88, 89, 90] (by decide +kernel) (by decide +kernel)
set_option maxRecDepth 20000 in
theorem gX2_useOrDefault_X2_layLast : GoodIn wsX2_useOrDefault (wsV RX2 167 RX2 yX2_layLast wsX2_layLast) := goodIn_app (goodIn_of _ (by decide +kernel)) ggX2_useOrDefault_X2_layLast
theorem dX2_useOrDefault_0 : decode cX2_useOrDefault 0 = .ok (.aload_n 0, 1) := by decide +kernel
theorem dX2_useOrDefault_1 : decode cX2_useOrDefault 1 = .ok (.getfield 28, 3) := by decide +kernel
theorem dX2_useOrDefault_4 : decode cX2_useOrDefault 4 = .ok (.iload_n 1, 1) := by decide +kernel
theorem dX2_useOrDefault_5 : decode cX2_useOrDefault 5 = .ok (.invokevirtual 44, 3) := by decide +kernel
theorem dX2_useOrDefault_8 : decode cX2_useOrDefault 8 = .ok (.istore_n 3, 1) := by decide +kernel
theorem dX2_useOrDefault_9 : decode cX2_useOrDefault 9 = .ok (.iload_n 3, 1) := by decide +kernel
theorem dX2_useOrDefault_10 : decode cX2_useOrDefault 10 = .ok (.iconst (-1), 1) := by decide +kernel
theorem dX2_useOrDefault_11 : decode cX2_useOrDefault 11 = .ok (.if_icmp .ne 5, 3) := by decide +kernel
theorem dX2_useOrDefault_14 : decode cX2_useOrDefault 14 = .ok (.iload_n 2, 1) := by decide +kernel
theorem dX2_useOrDefault_15 : decode cX2_useOrDefault 15 = .ok (.ireturn, 1) := by decide +kernel
theorem dX2_useOrDefault_16 : decode cX2_useOrDefault 16 = .ok (.aload_n 0, 1) := by decide +kernel
theorem dX2_useOrDefault_17 : decode cX2_useOrDefault 17 = .ok (.getfield 28, 3) := by decide +kernel
theorem dX2_useOrDefault_20 : decode cX2_useOrDefault 20 = .ok (.iload_n 3, 1) := by decide +kernel
theorem dX2_useOrDefault_21 : decode cX2_useOrDefault 21 = .ok (.invokevirtual 54, 3) := by decide +kernel
theorem dX2_useOrDefault_24 : decode cX2_useOrDefault 24 = .ok (.istore 4, 2) := by decide +kernel
theorem dX2_useOrDefault_26 : decode cX2_useOrDefault 26 = .ok (.aload_n 0, 1) := by decide +kernel
theorem dX2_useOrDefault_27 : decode cX2_useOrDefault 27 = .ok (.iload_n 3, 1) := by decide +kernel
theorem dX2_useOrDefault_28 : decode cX2_useOrDefault 28 = .ok (.iload_n 1, 1) := by decide +kernel
theorem dX2_useOrDefault_29 : decode cX2_useOrDefault 29 = .ok (.iload 4, 2) := by decide +kernel
theorem dX2_useOrDefault_31 : decode cX2_useOrDefault 31 = .ok (.invokevirtual 167, 3) := by decide +kernel
theorem dX2_useOrDefault_34 : decode cX2_useOrDefault 34 = .ok (.iload 4, 2) := by decide +kernel
theorem dX2_useOrDefault_36 : decode cX2_useOrDefault 36 = .ok (.ireturn, 1) := by decide +kernel
set_option maxRecDepth 20000 in
theorem ggX2_look_X0_hasKey : GoodIn wsX2_look wsX0_hasKey := goodIn_r _ [6, 7, 8, 9, 10, 11, 12, 13, 14, 15, 16, 17, 18, 27, 28, 29, 30] (by decide +kernel) (by decide +kernel)
set_option maxRecDepth 20000 in
theorem gX2_look_X0_hasKey : GoodIn wsX2_look (wsV RX2 71 RX0 yX0_hasKey wsX0_hasKey) := goodIn_app (goodIn_of _ (by decide +kernel)) ggX2_look_X0_hasKey
theorem dX2_look_0 : decode cX2_look 0 = .ok (.aload_n 0, 1) := by decide +kernel
theorem dX2_look_1 : decode cX2_look 1 = .ok (.getfield 28, 3) := by decide +kernel
theorem dX2_look_4 : decode cX2_look 4 = .ok (.iload_n 1, 1) := by decide +kernel
theorem dX2_look_5 : decode cX2_look 5 = .ok (.invokevirtual 71, 3) := by decide +kernel
theorem dX2_look_8 : decode cX2_look 8 = .ok (.ireturn, 1) := by decide +kernel
set_option maxRecDepth 20000 in
theorem ggX2_take_X0_placeOf : GoodIn wsX2_take wsX0_placeOf := goodIn_r _ [6, 7, 8, 9, 10, 11, 12, 13, 14, 56, 57, 58, 59] (by decide +kernel) (by decide +kernel)
set_option maxRecDepth 20000 in
theorem gX2_take_X0_placeOf : GoodIn wsX2_take (wsV RX2 44 RX0 yX0_placeOf wsX0_placeOf) := goodIn_app (goodIn_of _ (by decide +kernel)) ggX2_take_X0_placeOf
set_option maxRecDepth 20000 in
theorem ggX2_take_X0_valueOrNone : GoodIn wsX2_take wsX0_valueOrNone := goodIn_r _ [18, 19, 20, 21, 22, 23, 11, 24, 14, 25, 26, 27, 28, 13, 56, 57, 58, 59] (by decide +kernel) (by decide +kernel)
set_option maxRecDepth 20000 in
theorem gX2_take_X0_valueOrNone : GoodIn wsX2_take (wsV RX2 60 RX0 yX0_valueOrNone wsX0_valueOrNone) := goodIn_app (goodIn_of _ (by decide +kernel)) ggX2_take_X0_valueOrNone
set_option maxRecDepth 20000 in
theorem ggX2_take_X2_cutOutOfShelf : GoodIn wsX2_take wsX2_cutOutOfShelf := goodIn_r _ [33, 1, 34, 35, 36, 37, 5, 38, 7, 20, 39, 40, 41, 11, 42, 13, 14, 43, 44, 45, 46, 25, 26, 27, 28, 47, 48, 49, 50, 51, 52, 53, 54, 55, 56, 57, 58, 59] (by decide +kernel) (by decide +kernel)
set_option maxRecDepth 20000 in
theorem gX2_take_X2_cutOutOfShelf : GoodIn wsX2_take (wsV RX2 171 RX2 yX2_cutOutOfShelf wsX2_cutOutOfShelf) := goodIn_app (goodIn_of _ (by decide +kernel)) ggX2_take_X2_cutOutOfShelf
theorem dX2_take_0 : decode cX2_take 0 = .ok (.aload_n 0, 1) := by decide +kernel
theorem dX2_take_1 : decode cX2_take 1 = .ok (.getfield 28, 3) := by decide +kernel
theorem dX2_take_4 : decode cX2_take 4 = .ok (.iload_n 1, 1) := by decide +kernel
theorem dX2_take_5 : decode cX2_take 5 = .ok (.invokevirtual 44, 3) := by decide +kernel
theorem dX2_take_8 : decode cX2_take 8 = .ok (.istore_n 2, 1) := by decide +kernel
theorem dX2_take_9 : decode cX2_take 9 = .ok (.aload_n 0, 1) := by decide +kernel
theorem dX2_take_10 : decode cX2_take 10 = .ok (.getfield 28, 3) := by decide +kernel
theorem dX2_take_13 : decode cX2_take 13 = .ok (.iload_n 2, 1) := by decide +kernel
theorem dX2_take_14 : decode cX2_take 14 = .ok (.invokevirtual 60, 3) := by decide +kernel
theorem dX2_take_17 : decode cX2_take 17 = .ok (.lstore_n 3, 1) := by decide +kernel
theorem dX2_take_18 : decode cX2_take 18 = .ok (.aload_n 0, 1) := by decide +kernel
theorem dX2_take_19 : decode cX2_take 19 = .ok (.iload_n 2, 1) := by decide +kernel
theorem dX2_take_20 : decode cX2_take 20 = .ok (.invokevirtual 171, 3) := by decide +kernel
theorem dX2_take_23 : decode cX2_take 23 = .ok (.lload_n 3, 1) := by decide +kernel
theorem dX2_take_24 : decode cX2_take 24 = .ok (.lreturn, 1) := by decide +kernel
set_option maxRecDepth 20000 in
theorem ggX2_keyAt_X2_checkPlace : GoodIn wsX2_keyAt wsX2_checkPlace := goodIn_ca (goodIn_r _ [6, 7, 8, 1, 9, 10, 11, 12, 13, 14, 15, 16, 17, 18, 19, 20, 34, 35, 36, 37, 38, 39, 40, 41, 42, 43, 44, 45] (by decide +kernel) (by decide +kernel)) (goodIn_sub (fun _ h => List.mem_cons_of_mem _ (List.mem_append_right _ h)) (by decide +kernel))
set_option maxRecDepth 20000 in
theorem gX2_keyAt_X2_checkPlace : GoodIn wsX2_keyAt (wsV RX2 174 RX2 yX2_checkPlace wsX2_checkPlace) := goodIn_app (goodIn_of _ (by decide +kernel)) ggX2_keyAt_X2_checkPlace
set_option maxRecDepth 20000 in
theorem ggX2_keyAt_X0_keyIn : GoodIn wsX2_keyAt wsX0_keyIn := goodIn_r _ [24, 14, 25, 26, 27, 18, 28, 29, 30, 31, 32, 33, 20, 42, 43, 44, 45] (by decide +kernel) (by decide +kernel)
set_option maxRecDepth 20000 in
theorem gX2_keyAt_X0_keyIn : GoodIn wsX2_keyAt (wsV RX2 109 RX0 yX0_keyIn wsX0_keyIn) := goodIn_app (goodIn_of _ (by decide +kernel)) ggX2_keyAt_X0_keyIn
theorem dX2_keyAt_0 : decode cX2_keyAt 0 = .ok (.aload_n 0, 1) := by decide +kernel
theorem dX2_keyAt_1 : decode cX2_keyAt 1 = .ok (.iload_n 1, 1) := by decide +kernel
theorem dX2_keyAt_2 : decode cX2_keyAt 2 = .ok (.invokevirtual 174, 3) := by decide +kernel
theorem dX2_keyAt_5 : decode cX2_keyAt 5 = .ok (.aload_n 0, 1) := by decide +kernel
theorem dX2_keyAt_6 : decode cX2_keyAt 6 = .ok (.getfield 28, 3) := by decide +kernel
theorem dX2_keyAt_9 : decode cX2_keyAt 9 = .ok (.iload_n 1, 1) := by decide +kernel
theorem dX2_keyAt_10 : decode cX2_keyAt 10 = .ok (.invokevirtual 109, 3) := by decide +kernel
theorem dX2_keyAt_13 : decode cX2_keyAt 13 = .ok (.ireturn, 1) := by decide +kernel
set_option maxRecDepth 20000 in
theorem ggX2_valueAt_X2_checkPlace : GoodIn wsX2_valueAt wsX2_checkPlace := goodIn_ca (goodIn_r _ [6, 7, 8, 1, 9, 10, 11, 12, 13, 14, 15, 16, 17, 18, 19, 20, 35, 36, 37, 38, 39, 40, 41, 42, 43, 44, 45, 46] (by decide +kernel) (by decide +kernel)) (goodIn_sub (fun _ h => List.mem_cons_of_mem _ (List.mem_append_right _ h)) (by decide +kernel))
set_option maxRecDepth 20000 in
theorem gX2_valueAt_X2_checkPlace : GoodIn wsX2_valueAt (wsV RX2 174 RX2 yX2_checkPlace wsX2_checkPlace) := goodIn_app (goodIn_of _ (by decide +kernel)) ggX2_valueAt_X2_checkPlace
set_option maxRecDepth 20000 in
theorem ggX2_valueAt_X0_valueIn : GoodIn wsX2_valueAt wsX0_valueIn := goodIn_r _ [24, 25, 26, 27, 28, 18, 29, 30, 31, 32, 33, 34, 20, 43, 44, 45, 46] (by decide +kernel) (by decide +kernel)
set_option maxRecDepth 20000 in
theorem gX2_valueAt_X0_valueIn : GoodIn wsX2_valueAt (wsV RX2 54 RX0 yX0_valueIn wsX0_valueIn) := goodIn_app (goodIn_of _ (by decide +kernel)) ggX2_valueAt_X0_valueIn
theorem dX2_valueAt_0 : decode cX2_valueAt 0 = .ok (.aload_n 0, 1) := by decide +kernel
theorem dX2_valueAt_1 : decode cX2_valueAt 1 = .ok (.iload_n 1, 1) := by decide +kernel
theorem dX2_valueAt_2 : decode cX2_valueAt 2 = .ok (.invokevirtual 174, 3) := by decide +kernel
theorem dX2_valueAt_5 : decode cX2_valueAt 5 = .ok (.aload_n 0, 1) := by decide +kernel
theorem dX2_valueAt_6 : decode cX2_valueAt 6 = .ok (.getfield 28, 3) := by decide +kernel
theorem dX2_valueAt_9 : decode cX2_valueAt 9 = .ok (.iload_n 1, 1) := by decide +kernel
theorem dX2_valueAt_10 : decode cX2_valueAt 10 = .ok (.invokevirtual 54, 3) := by decide +kernel
theorem dX2_valueAt_13 : decode cX2_valueAt 13 = .ok (.ireturn, 1) := by decide +kernel
set_option maxRecDepth 20000 in
theorem ggX2_usedAt_X0_placeOf : GoodIn wsX2_usedAt wsX0_placeOf := goodIn_r _ [7, 8, 9, 10, 11, 12, 13, 14, 15, 32, 33, 34, 35] (by decide +kernel) (by decide +kernel)
set_option maxRecDepth 20000 in
theorem gX2_usedAt_X0_placeOf : GoodIn wsX2_usedAt (wsV RX2 44 RX0 yX0_placeOf wsX0_placeOf) := goodIn_app (goodIn_of _ (by decide +kernel)) ggX2_usedAt_X0_placeOf
set_option maxRecDepth 20000 in
theorem ggX2_usedAt_X1_at : GoodIn wsX2_usedAt wsX1_at := goodIn_r _ [19, 15, 20, 21, 22, 12, 23, 14, 34, 35] (by decide +kernel) (by decide +kernel)
set_option maxRecDepth 20000 in
theorem gX2_usedAt_X1_at : GoodIn wsX2_usedAt (wsV RX2 157 RX1 yX1_at wsX1_at) := goodIn_app (goodIn_of _ (by decide +kernel)) ggX2_usedAt_X1_at
theorem dX2_usedAt_0 : decode cX2_usedAt 0 = .ok (.aload_n 0, 1) := by decide +kernel
theorem dX2_usedAt_1 : decode cX2_usedAt 1 = .ok (.getfield 28, 3) := by decide +kernel
theorem dX2_usedAt_4 : decode cX2_usedAt 4 = .ok (.iload_n 1, 1) := by decide +kernel
theorem dX2_usedAt_5 : decode cX2_usedAt 5 = .ok (.invokevirtual 44, 3) := by decide +kernel
theorem dX2_usedAt_8 : decode cX2_usedAt 8 = .ok (.istore_n 2, 1) := by decide +kernel
theorem dX2_usedAt_9 : decode cX2_usedAt 9 = .ok (.iload_n 2, 1) := by decide +kernel
theorem dX2_usedAt_10 : decode cX2_usedAt 10 = .ok (.iconst (-1), 1) := by decide +kernel
theorem dX2_usedAt_11 : decode cX2_usedAt 11 = .ok (.if_icmp .ne 7, 3) := by decide +kernel
theorem dX2_usedAt_14 : decode cX2_usedAt 14 = .ok (.iconst 0, 1) := by decide +kernel
theorem dX2_usedAt_15 : decode cX2_usedAt 15 = .ok (.goto 11, 3) := by decide +kernel
theorem dX2_usedAt_18 : decode cX2_usedAt 18 = .ok (.aload_n 0, 1) := by decide +kernel
theorem dX2_usedAt_19 : decode cX2_usedAt 19 = .ok (.getfield 31, 3) := by decide +kernel
theorem dX2_usedAt_22 : decode cX2_usedAt 22 = .ok (.iload_n 2, 1) := by decide +kernel
theorem dX2_usedAt_23 : decode cX2_usedAt 23 = .ok (.invokevirtual 157, 3) := by decide +kernel
theorem dX2_usedAt_26 : decode cX2_usedAt 26 = .ok (.ireturn, 1) := by decide +kernel
set_option maxRecDepth 20000 in
theorem ggX2_length_X0_held : GoodIn wsX2_length wsX0_held := goodIn_r _ [6, 7, 8, 9, 10, 11, 12, 13, 22, 23, 24, 25] (by decide +kernel) (by decide +kernel)
set_option maxRecDepth 20000 in
theorem gX2_length_X0_held : GoodIn wsX2_length (wsV RX2 102 RX0 yX0_held wsX0_held) := goodIn_app (goodIn_of _ (by decide +kernel)) ggX2_length_X0_held
theorem dX2_length_0 : decode cX2_length 0 = .ok (.aload_n 0, 1) := by decide +kernel
theorem dX2_length_1 : decode cX2_length 1 = .ok (.getfield 28, 3) := by decide +kernel
theorem dX2_length_4 : decode cX2_length 4 = .ok (.invokevirtual 102, 3) := by decide +kernel
theorem dX2_length_7 : decode cX2_length 7 = .ok (.ireturn, 1) := by decide +kernel
set_option maxRecDepth 20000 in
theorem ggX2_wipe_X0_held : GoodIn wsX2_wipe wsX0_held := goodIn_r _ [7, 8, 9, 10, 11, 12, 13, 14, 33, 34, 35, 36] (by decide +kernel) (by decide +kernel)
set_option maxRecDepth 20000 in
theorem gX2_wipe_X0_held : GoodIn wsX2_wipe (wsV RX2 102 RX0 yX0_held wsX0_held) := goodIn_app (goodIn_of _ (by decide +kernel)) ggX2_wipe_X0_held
set_option maxRecDepth 20000 in
theorem ggX2_wipe_X0_empty : GoodIn wsX2_wipe wsX0_empty := goodIn_r _ [18, 8, 19, 20, 21, 22, 12, 23, 14, 33, 34, 35, 36] (by decide +kernel) (by decide +kernel)
set_option maxRecDepth 20000 in
theorem gX2_wipe_X0_empty : GoodIn wsX2_wipe (wsV RX2 112 RX0 yX0_empty wsX0_empty) := goodIn_app (goodIn_of _ (by decide +kernel)) ggX2_wipe_X0_empty
set_option maxRecDepth 20000 in
theorem ggX2_wipe_X1_empty : GoodIn wsX2_wipe wsX1_empty := goodIn_r _ [23, 14, 35, 36] (by decide +kernel) (by decide +kernel)
set_option maxRecDepth 20000 in
theorem gX2_wipe_X1_empty : GoodIn wsX2_wipe (wsV RX2 177 RX1 yX1_empty wsX1_empty) := goodIn_app (goodIn_of _ (by decide +kernel)) ggX2_wipe_X1_empty
theorem dX2_wipe_0 : decode cX2_wipe 0 = .ok (.aload_n 0, 1) := by decide +kernel
theorem dX2_wipe_1 : decode cX2_wipe 1 = .ok (.getfield 28, 3) := by decide +kernel
theorem dX2_wipe_4 : decode cX2_wipe 4 = .ok (.invokevirtual 102, 3) := by decide +kernel
theorem dX2_wipe_7 : decode cX2_wipe 7 = .ok (.istore_n 1, 1) := by decide +kernel
theorem dX2_wipe_8 : decode cX2_wipe 8 = .ok (.aload_n 0, 1) := by decide +kernel
theorem dX2_wipe_9 : decode cX2_wipe 9 = .ok (.getfield 28, 3) := by decide +kernel
theorem dX2_wipe_12 : decode cX2_wipe 12 = .ok (.invokevirtual 112, 3) := by decide +kernel
theorem dX2_wipe_15 : decode cX2_wipe 15 = .ok (.aload_n 0, 1) := by decide +kernel
theorem dX2_wipe_16 : decode cX2_wipe 16 = .ok (.getfield 31, 3) := by decide +kernel
theorem dX2_wipe_19 : decode cX2_wipe 19 = .ok (.invokevirtual 177, 3) := by decide +kernel
theorem dX2_wipe_22 : decode cX2_wipe 22 = .ok (.iload_n 1, 1) := by decide +kernel
theorem dX2_wipe_23 : decode cX2_wipe 23 = .ok (.ireturn, 1) := by decide +kernel
theorem dX2_dropped_0 : decode cX2_dropped 0 = .ok (.aload_n 0, 1) := by decide +kernel
theorem dX2_dropped_1 : decode cX2_dropped 1 = .ok (.getfield 41, 3) := by decide +kernel
theorem dX2_dropped_4 : decode cX2_dropped 4 = .ok (.ireturn, 1) := by decide +kernel
set_option maxRecDepth 20000 in
theorem ggX2_walk_X0_held : GoodIn wsX2_walk wsX0_held := goodIn_r _ [8, 9, 10, 11, 12, 13, 14, 15, 42, 43, 44, 45] (by decide +kernel) (by decide +kernel)
set_option maxRecDepth 20000 in
theorem gX2_walk_X0_held : GoodIn wsX2_walk (wsV RX2 102 RX0 yX0_held wsX0_held) := goodIn_app (goodIn_of _ (by decide +kernel)) ggX2_walk_X0_held
set_option maxRecDepth 20000 in
theorem ggX2_walk_X0_keyIn : GoodIn wsX2_walk wsX0_keyIn := goodIn_r _ [19, 9, 20, 21, 22, 13, 23, 24, 25, 26, 27, 28, 15, 42, 43, 44, 45] (by decide +kernel) (by decide +kernel)
set_option maxRecDepth 20000 in
theorem gX2_walk_X0_keyIn : GoodIn wsX2_walk (wsV RX2 109 RX0 yX0_keyIn wsX0_keyIn) := goodIn_app (goodIn_of _ (by decide +kernel)) ggX2_walk_X0_keyIn
set_option maxRecDepth 20000 in
theorem ggX2_walk_X0_valueIn : GoodIn wsX2_walk wsX0_valueIn := goodIn_r _ [32, 33, 20, 21, 22, 13, 23, 24, 25, 26, 27, 28, 15, 42, 43, 44, 45] (by decide +kernel) (by decide +kernel)
set_option maxRecDepth 20000 in
theorem gX2_walk_X0_valueIn : GoodIn wsX2_walk (wsV RX2 54 RX0 yX0_valueIn wsX0_valueIn) := goodIn_app (goodIn_of _ (by decide +kernel)) ggX2_walk_X0_valueIn
theorem dX2_walk_0 : decode cX2_walk 0 = .ok (.ldc2_w 117, 3) := by decide +kernel
theorem dX2_walk_3 : decode cX2_walk 3 = .ok (.lstore_n 1, 1) := by decide +kernel
theorem dX2_walk_4 : decode cX2_walk 4 = .ok (.iconst 0, 1) := by decide +kernel
theorem dX2_walk_5 : decode cX2_walk 5 = .ok (.istore_n 3, 1) := by decide +kernel
theorem dX2_walk_6 : decode cX2_walk 6 = .ok (.iload_n 3, 1) := by decide +kernel
theorem dX2_walk_7 : decode cX2_walk 7 = .ok (.aload_n 0, 1) := by decide +kernel
theorem dX2_walk_8 : decode cX2_walk 8 = .ok (.getfield 28, 3) := by decide +kernel
theorem dX2_walk_11 : decode cX2_walk 11 = .ok (.invokevirtual 102, 3) := by decide +kernel
theorem dX2_walk_14 : decode cX2_walk 14 = .ok (.if_icmp .ge 41, 3) := by decide +kernel
theorem dX2_walk_17 : decode cX2_walk 17 = .ok (.ldc2_w 178, 3) := by decide +kernel
theorem dX2_walk_20 : decode cX2_walk 20 = .ok (.lload_n 1, 1) := by decide +kernel
theorem dX2_walk_21 : decode cX2_walk 21 = .ok (.lmul, 1) := by decide +kernel
theorem dX2_walk_22 : decode cX2_walk 22 = .ok (.aload_n 0, 1) := by decide +kernel
theorem dX2_walk_23 : decode cX2_walk 23 = .ok (.getfield 28, 3) := by decide +kernel
theorem dX2_walk_26 : decode cX2_walk 26 = .ok (.iload_n 3, 1) := by decide +kernel
theorem dX2_walk_27 : decode cX2_walk 27 = .ok (.invokevirtual 109, 3) := by decide +kernel
theorem dX2_walk_30 : decode cX2_walk 30 = .ok (.i2l, 1) := by decide +kernel
theorem dX2_walk_31 : decode cX2_walk 31 = .ok (.ladd, 1) := by decide +kernel
theorem dX2_walk_32 : decode cX2_walk 32 = .ok (.lstore_n 1, 1) := by decide +kernel
theorem dX2_walk_33 : decode cX2_walk 33 = .ok (.ldc2_w 178, 3) := by decide +kernel
theorem dX2_walk_36 : decode cX2_walk 36 = .ok (.lload_n 1, 1) := by decide +kernel
theorem dX2_walk_37 : decode cX2_walk 37 = .ok (.lmul, 1) := by decide +kernel
theorem dX2_walk_38 : decode cX2_walk 38 = .ok (.aload_n 0, 1) := by decide +kernel
theorem dX2_walk_39 : decode cX2_walk 39 = .ok (.getfield 28, 3) := by decide +kernel
theorem dX2_walk_42 : decode cX2_walk 42 = .ok (.iload_n 3, 1) := by decide +kernel
theorem dX2_walk_43 : decode cX2_walk 43 = .ok (.invokevirtual 54, 3) := by decide +kernel
theorem dX2_walk_46 : decode cX2_walk 46 = .ok (.i2l, 1) := by decide +kernel
theorem dX2_walk_47 : decode cX2_walk 47 = .ok (.ladd, 1) := by decide +kernel
theorem dX2_walk_48 : decode cX2_walk 48 = .ok (.lstore_n 1, 1) := by decide +kernel
theorem dX2_walk_49 : decode cX2_walk 49 = .ok (.iinc 3 1, 3) := by decide +kernel
theorem dX2_walk_52 : decode cX2_walk 52 = .ok (.goto (-46), 3) := by decide +kernel
theorem dX2_walk_55 : decode cX2_walk 55 = .ok (.lload_n 1, 1) := by decide +kernel
theorem dX2_walk_56 : decode cX2_walk 56 = .ok (.lreturn, 1) := by decide +kernel
set_option maxRecDepth 20000 in
theorem ggX2_isTrue_X1_held : GoodIn wsX2_isTrue wsX1_held := goodIn_r _ [8, 9, 34, 35] (by decide +kernel) (by decide +kernel)
set_option maxRecDepth 20000 in
theorem gX2_isTrue_X1_held : GoodIn wsX2_isTrue (wsV RX2 153 RX1 yX1_held wsX1_held) := goodIn_app (goodIn_of _ (by decide +kernel)) ggX2_isTrue_X1_held
set_option maxRecDepth 20000 in
theorem ggX2_isTrue_X1_at : GoodIn wsX2_isTrue wsX1_at := goodIn_r _ [13, 14, 15, 16, 17, 7, 18, 9, 34, 35] (by decide +kernel) (by decide +kernel)
set_option maxRecDepth 20000 in
theorem gX2_isTrue_X1_at : GoodIn wsX2_isTrue (wsV RX2 157 RX1 yX1_at wsX1_at) := goodIn_app (goodIn_of _ (by decide +kernel)) ggX2_isTrue_X1_at
set_option maxRecDepth 20000 in
theorem ggX2_isTrue_X0_held : GoodIn wsX2_isTrue wsX0_held := goodIn_r _ [23, 24, 25, 5, 6, 7, 8, 9, 36, 37, 34, 35] (by decide +kernel) (by decide +kernel)
set_option maxRecDepth 20000 in
theorem gX2_isTrue_X0_held : GoodIn wsX2_isTrue (wsV RX2 102 RX0 yX0_held wsX0_held) := goodIn_app (goodIn_of _ (by decide +kernel)) ggX2_isTrue_X0_held
theorem dX2_isTrue_0 : decode cX2_isTrue 0 = .ok (.iconst 1, 1) := by decide +kernel
theorem dX2_isTrue_1 : decode cX2_isTrue 1 = .ok (.istore_n 1, 1) := by decide +kernel
theorem dX2_isTrue_2 : decode cX2_isTrue 2 = .ok (.iload_n 1, 1) := by decide +kernel
theorem dX2_isTrue_3 : decode cX2_isTrue 3 = .ok (.aload_n 0, 1) := by decide +kernel
theorem dX2_isTrue_4 : decode cX2_isTrue 4 = .ok (.getfield 31, 3) := by decide +kernel
theorem dX2_isTrue_7 : decode cX2_isTrue 7 = .ok (.invokevirtual 153, 3) := by decide +kernel
theorem dX2_isTrue_10 : decode cX2_isTrue 10 = .ok (.if_icmp .ge 32, 3) := by decide +kernel
theorem dX2_isTrue_13 : decode cX2_isTrue 13 = .ok (.aload_n 0, 1) := by decide +kernel
theorem dX2_isTrue_14 : decode cX2_isTrue 14 = .ok (.getfield 31, 3) := by decide +kernel
theorem dX2_isTrue_17 : decode cX2_isTrue 17 = .ok (.iload_n 1, 1) := by decide +kernel
theorem dX2_isTrue_18 : decode cX2_isTrue 18 = .ok (.iconst 1, 1) := by decide +kernel
theorem dX2_isTrue_19 : decode cX2_isTrue 19 = .ok (.isub, 1) := by decide +kernel
theorem dX2_isTrue_20 : decode cX2_isTrue 20 = .ok (.invokevirtual 157, 3) := by decide +kernel
theorem dX2_isTrue_23 : decode cX2_isTrue 23 = .ok (.aload_n 0, 1) := by decide +kernel
theorem dX2_isTrue_24 : decode cX2_isTrue 24 = .ok (.getfield 31, 3) := by decide +kernel
theorem dX2_isTrue_27 : decode cX2_isTrue 27 = .ok (.iload_n 1, 1) := by decide +kernel
theorem dX2_isTrue_28 : decode cX2_isTrue 28 = .ok (.invokevirtual 157, 3) := by decide +kernel
theorem dX2_isTrue_31 : decode cX2_isTrue 31 = .ok (.if_icmp .lt 5, 3) := by decide +kernel
theorem dX2_isTrue_34 : decode cX2_isTrue 34 = .ok (.iconst 0, 1) := by decide +kernel
theorem dX2_isTrue_35 : decode cX2_isTrue 35 = .ok (.ireturn, 1) := by decide +kernel
theorem dX2_isTrue_36 : decode cX2_isTrue 36 = .ok (.iinc 1 1, 3) := by decide +kernel
theorem dX2_isTrue_39 : decode cX2_isTrue 39 = .ok (.goto (-37), 3) := by decide +kernel
theorem dX2_isTrue_42 : decode cX2_isTrue 42 = .ok (.aload_n 0, 1) := by decide +kernel
theorem dX2_isTrue_43 : decode cX2_isTrue 43 = .ok (.getfield 28, 3) := by decide +kernel
theorem dX2_isTrue_46 : decode cX2_isTrue 46 = .ok (.invokevirtual 102, 3) := by decide +kernel
theorem dX2_isTrue_49 : decode cX2_isTrue 49 = .ok (.aload_n 0, 1) := by decide +kernel
theorem dX2_isTrue_50 : decode cX2_isTrue 50 = .ok (.getfield 34, 3) := by decide +kernel
theorem dX2_isTrue_53 : decode cX2_isTrue 53 = .ok (.if_icmp .gt 7, 3) := by decide +kernel
theorem dX2_isTrue_56 : decode cX2_isTrue 56 = .ok (.iconst 1, 1) := by decide +kernel
theorem dX2_isTrue_57 : decode cX2_isTrue 57 = .ok (.goto 4, 3) := by decide +kernel
theorem dX2_isTrue_60 : decode cX2_isTrue 60 = .ok (.iconst 0, 1) := by decide +kernel
theorem dX2_isTrue_61 : decode cX2_isTrue 61 = .ok (.ireturn, 1) := by decide +kernel
set_option maxRecDepth 20000 in
theorem ggX2_checkPlace_X0_held : GoodIn wsX2_checkPlace wsX0_held := goodIn_r _ [8, 9, 10, 11, 12, 13, 14, 15, 24, 25, 26, 27] (by decide +kernel) (by decide +kernel)
set_option maxRecDepth 20000 in
theorem gX2_checkPlace_X0_held : GoodIn wsX2_checkPlace (wsV RX2 102 RX0 yX0_held wsX0_held) := goodIn_app (goodIn_of _ (by decide +kernel)) ggX2_checkPlace_X0_held
theorem dX2_checkPlace_0 : decode cX2_checkPlace 0 = .ok (.iload_n 1, 1) := by decide +kernel
theorem dX2_checkPlace_1 : decode cX2_checkPlace 1 = .ok (.ifCond .lt 14, 3) := by decide +kernel
theorem dX2_checkPlace_4 : decode cX2_checkPlace 4 = .ok (.iload_n 1, 1) := by decide +kernel
theorem dX2_checkPlace_5 : decode cX2_checkPlace 5 = .ok (.aload_n 0, 1) := by decide +kernel
theorem dX2_checkPlace_6 : decode cX2_checkPlace 6 = .ok (.getfield 28, 3) := by decide +kernel
theorem dX2_checkPlace_9 : decode cX2_checkPlace 9 = .ok (.invokevirtual 102, 3) := by decide +kernel
theorem dX2_checkPlace_12 : decode cX2_checkPlace 12 = .ok (.if_icmp .lt 13, 3) := by decide +kernel
theorem dX2_checkPlace_15 : decode cX2_checkPlace 15 = .ok (.new 180, 3) := by decide +kernel
theorem dX2_checkPlace_18 : decode cX2_checkPlace 18 = .ok (.dup, 1) := by decide +kernel
theorem dX2_checkPlace_19 : decode cX2_checkPlace 19 = .ok (.ldc 182, 2) := by decide +kernel
theorem dX2_checkPlace_21 : decode cX2_checkPlace 21 = .ok (.invokespecial 184, 3) := by decide +kernel
theorem dX2_checkPlace_24 : decode cX2_checkPlace 24 = .ok (.athrow, 1) := by decide +kernel
theorem dX2_checkPlace_25 : decode cX2_checkPlace 25 = .ok (.return_, 1) := by decide +kernel
set_option maxRecDepth 20000 in
theorem ggX2_layLast_X2_cutOutOfShelf : GoodIn wsX2_layLast wsX2_cutOutOfShelf := goodIn_r _ [8, 2, 3, 9, 10, 11, 12, 13, 14, 15, 16, 17, 18, 19, 20, 21, 22, 23, 24, 25, 26, 27, 28, 29, 30, 31, 59, 60, 61, 62, 63, 64, 65, 66, 67, 68, 69, 70] (by decide +kernel) (by decide +kernel)
set_option maxRecDepth 20000 in
theorem gX2_layLast_X2_cutOutOfShelf : GoodIn wsX2_layLast (wsV RX2 171 RX2 yX2_cutOutOfShelf wsX2_cutOutOfShelf) := goodIn_app (goodIn_of _ (by decide +kernel)) ggX2_layLast_X2_cutOutOfShelf
set_option maxRecDepth 20000 in
theorem ggX2_layLast_X0_append : GoodIn wsX2_layLast wsX0_append := goodIn_r _ [35, 14, 15, 36, 37, 38, 19, 39, 21, 22, 67, 68, 69, 70] (by decide +kernel) (by decide +kernel)
set_option maxRecDepth 20000 in
theorem gX2_layLast_X0_append : GoodIn wsX2_layLast (wsV RX2 85 RX0 yX0_append wsX0_append) := goodIn_app (goodIn_of _ (by decide +kernel)) ggX2_layLast_X0_append
set_option maxRecDepth 20000 in
theorem ggX2_layLast_X1_append : GoodIn wsX2_layLast wsX1_append := goodIn_r _ [39, 21, 22, 69, 70] (by decide +kernel) (by decide +kernel)
set_option maxRecDepth 20000 in
theorem gX2_layLast_X1_append : GoodIn wsX2_layLast (wsV RX2 149 RX1 yX1_append wsX1_append) := goodIn_app (goodIn_of _ (by decide +kernel)) ggX2_layLast_X1_append
set_option maxRecDepth 20000 in
theorem ggX2_layLast_X2_dropWhatIsOver : GoodIn wsX2_layLast wsX2_dropWhatIsOver := goodIn_r _ [44, 2, 45, 46, 47, 48, 49, 50, 51, 52, 53, 12, 54, 14, 55, 56, 57, 19, 58, 21, 4, 5, 6, 7, 8, 3, 9, 10, 11, 13, 15, 16, 17, 18, 20, 22, 23, 24, 25, 26, 27, 28, 29, 30, 31, 59, 60, 61, 62, 63, 64, 65, 66, 67, 68, 69, 70] (by decide +kernel) (by decide +kernel)
set_option maxRecDepth 20000 in
theorem gX2_layLast_X2_dropWhatIsOver : GoodIn wsX2_layLast (wsV RX2 164 RX2 yX2_dropWhatIsOver wsX2_dropWhatIsOver) := goodIn_app (goodIn_of _ (by decide +kernel)) ggX2_layLast_X2_dropWhatIsOver
theorem dX2_layLast_0 : decode cX2_layLast 0 = .ok (.aload_n 0, 1) := by decide +kernel
theorem dX2_layLast_1 : decode cX2_layLast 1 = .ok (.iload_n 1, 1) := by decide +kernel
theorem dX2_layLast_2 : decode cX2_layLast 2 = .ok (.invokevirtual 171, 3) := by decide +kernel
theorem dX2_layLast_5 : decode cX2_layLast 5 = .ok (.aload_n 0, 1) := by decide +kernel
theorem dX2_layLast_6 : decode cX2_layLast 6 = .ok (.dup, 1) := by decide +kernel
theorem dX2_layLast_7 : decode cX2_layLast 7 = .ok (.getfield 38, 3) := by decide +kernel
theorem dX2_layLast_10 : decode cX2_layLast 10 = .ok (.iconst 1, 1) := by decide +kernel
theorem dX2_layLast_11 : decode cX2_layLast 11 = .ok (.iadd, 1) := by decide +kernel
theorem dX2_layLast_12 : decode cX2_layLast 12 = .ok (.putfield 38, 3) := by decide +kernel
theorem dX2_layLast_15 : decode cX2_layLast 15 = .ok (.aload_n 0, 1) := by decide +kernel
theorem dX2_layLast_16 : decode cX2_layLast 16 = .ok (.getfield 28, 3) := by decide +kernel
theorem dX2_layLast_19 : decode cX2_layLast 19 = .ok (.iload_n 2, 1) := by decide +kernel
theorem dX2_layLast_20 : decode cX2_layLast 20 = .ok (.iload_n 3, 1) := by decide +kernel
theorem dX2_layLast_21 : decode cX2_layLast 21 = .ok (.invokevirtual 85, 3) := by decide +kernel
theorem dX2_layLast_24 : decode cX2_layLast 24 = .ok (.aload_n 0, 1) := by decide +kernel
theorem dX2_layLast_25 : decode cX2_layLast 25 = .ok (.getfield 31, 3) := by decide +kernel
theorem dX2_layLast_28 : decode cX2_layLast 28 = .ok (.aload_n 0, 1) := by decide +kernel
theorem dX2_layLast_29 : decode cX2_layLast 29 = .ok (.getfield 38, 3) := by decide +kernel
theorem dX2_layLast_32 : decode cX2_layLast 32 = .ok (.invokevirtual 149, 3) := by decide +kernel
theorem dX2_layLast_35 : decode cX2_layLast 35 = .ok (.aload_n 0, 1) := by decide +kernel
theorem dX2_layLast_36 : decode cX2_layLast 36 = .ok (.invokevirtual 164, 3) := by decide +kernel
theorem dX2_layLast_39 : decode cX2_layLast 39 = .ok (.pop, 1) := by decide +kernel
theorem dX2_layLast_40 : decode cX2_layLast 40 = .ok (.return_, 1) := by decide +kernel
set_option maxRecDepth 20000 in
theorem ggX2_cutOutOfShelf_X0_cutOut : GoodIn wsX2_cutOutOfShelf wsX0_cutOut := goodIn_r _ [7, 8, 9, 10, 11, 12, 13, 14, 15, 16, 17, 18, 19, 20, 21, 22, 23, 24, 34, 35, 36, 37] (by decide +kernel) (by decide +kernel)
set_option maxRecDepth 20000 in
theorem gX2_cutOutOfShelf_X0_cutOut : GoodIn wsX2_cutOutOfShelf (wsV RX2 68 RX0 yX0_cutOut wsX0_cutOut) := goodIn_app (goodIn_of _ (by decide +kernel)) ggX2_cutOutOfShelf_X0_cutOut
set_option maxRecDepth 20000 in
theorem ggX2_cutOutOfShelf_X1_cutOut : GoodIn wsX2_cutOutOfShelf wsX1_cutOut := goodIn_r _ [14, 15, 16, 17, 18, 19, 20, 21, 22, 23, 13, 24, 36, 37] (by decide +kernel) (by decide +kernel)
set_option maxRecDepth 20000 in
theorem gX2_cutOutOfShelf_X1_cutOut : GoodIn wsX2_cutOutOfShelf (wsV RX2 152 RX1 yX1_cutOut wsX1_cutOut) := goodIn_app (goodIn_of _ (by decide +kernel)) ggX2_cutOutOfShelf_X1_cutOut
theorem dX2_cutOutOfShelf_0 : decode cX2_cutOutOfShelf 0 = .ok (.aload_n 0, 1) := by decide +kernel
theorem dX2_cutOutOfShelf_1 : decode cX2_cutOutOfShelf 1 = .ok (.getfield 28, 3) := by decide +kernel
theorem dX2_cutOutOfShelf_4 : decode cX2_cutOutOfShelf 4 = .ok (.iload_n 1, 1) := by decide +kernel
theorem dX2_cutOutOfShelf_5 : decode cX2_cutOutOfShelf 5 = .ok (.invokevirtual 68, 3) := by decide +kernel
theorem dX2_cutOutOfShelf_8 : decode cX2_cutOutOfShelf 8 = .ok (.aload_n 0, 1) := by decide +kernel
theorem dX2_cutOutOfShelf_9 : decode cX2_cutOutOfShelf 9 = .ok (.getfield 31, 3) := by decide +kernel
theorem dX2_cutOutOfShelf_12 : decode cX2_cutOutOfShelf 12 = .ok (.iload_n 1, 1) := by decide +kernel
theorem dX2_cutOutOfShelf_13 : decode cX2_cutOutOfShelf 13 = .ok (.invokevirtual 152, 3) := by decide +kernel
theorem dX2_cutOutOfShelf_16 : decode cX2_cutOutOfShelf 16 = .ok (.return_, 1) := by decide +kernel
set_option maxRecDepth 20000 in
theorem ggX2_dropWhatIsOver_X0_held : GoodIn wsX2_dropWhatIsOver wsX0_held := goodIn_r _ [12, 13, 14, 15, 16, 17, 18, 19, 53, 54, 55, 56] (by decide +kernel) (by decide +kernel)
set_option maxRecDepth 20000 in
theorem gX2_dropWhatIsOver_X0_held : GoodIn wsX2_dropWhatIsOver (wsV RX2 102 RX0 yX0_held wsX0_held) := goodIn_app (goodIn_of _ (by decide +kernel)) ggX2_dropWhatIsOver_X0_held
set_option maxRecDepth 20000 in
theorem ggX2_dropWhatIsOver_X2_cutOutOfShelf : GoodIn wsX2_dropWhatIsOver wsX2_cutOutOfShelf := goodIn_r _ [24, 1, 25, 26, 27, 28, 11, 29, 13, 30, 31, 32, 33, 17, 34, 19, 35, 36, 37, 38, 39, 40, 41, 42, 43, 44, 45, 46, 47, 48, 49, 50, 51, 52, 53, 54, 55, 56] (by decide +kernel) (by decide +kernel)
set_option maxRecDepth 20000 in
theorem gX2_dropWhatIsOver_X2_cutOutOfShelf : GoodIn wsX2_dropWhatIsOver (wsV RX2 171 RX2 yX2_cutOutOfShelf wsX2_cutOutOfShelf) := goodIn_app (goodIn_of _ (by decide +kernel)) ggX2_dropWhatIsOver_X2_cutOutOfShelf
theorem dX2_dropWhatIsOver_0 : decode cX2_dropWhatIsOver 0 = .ok (.aload_n 0, 1) := by decide +kernel
theorem dX2_dropWhatIsOver_1 : decode cX2_dropWhatIsOver 1 = .ok (.getfield 28, 3) := by decide +kernel
theorem dX2_dropWhatIsOver_4 : decode cX2_dropWhatIsOver 4 = .ok (.invokevirtual 102, 3) := by decide +kernel
theorem dX2_dropWhatIsOver_7 : decode cX2_dropWhatIsOver 7 = .ok (.aload_n 0, 1) := by decide +kernel
theorem dX2_dropWhatIsOver_8 : decode cX2_dropWhatIsOver 8 = .ok (.getfield 34, 3) := by decide +kernel
theorem dX2_dropWhatIsOver_11 : decode cX2_dropWhatIsOver 11 = .ok (.isub, 1) := by decide +kernel
theorem dX2_dropWhatIsOver_12 : decode cX2_dropWhatIsOver 12 = .ok (.iconst 0, 1) := by decide +kernel
theorem dX2_dropWhatIsOver_13 : decode cX2_dropWhatIsOver 13 = .ok (.invokestatic 185, 3) := by decide +kernel
theorem dX2_dropWhatIsOver_16 : decode cX2_dropWhatIsOver 16 = .ok (.istore_n 1, 1) := by decide +kernel
theorem dX2_dropWhatIsOver_17 : decode cX2_dropWhatIsOver 17 = .ok (.iconst 0, 1) := by decide +kernel
theorem dX2_dropWhatIsOver_18 : decode cX2_dropWhatIsOver 18 = .ok (.istore_n 2, 1) := by decide +kernel
theorem dX2_dropWhatIsOver_19 : decode cX2_dropWhatIsOver 19 = .ok (.iload_n 2, 1) := by decide +kernel
theorem dX2_dropWhatIsOver_20 : decode cX2_dropWhatIsOver 20 = .ok (.iload_n 1, 1) := by decide +kernel
theorem dX2_dropWhatIsOver_21 : decode cX2_dropWhatIsOver 21 = .ok (.if_icmp .ge 14, 3) := by decide +kernel
theorem dX2_dropWhatIsOver_24 : decode cX2_dropWhatIsOver 24 = .ok (.aload_n 0, 1) := by decide +kernel
theorem dX2_dropWhatIsOver_25 : decode cX2_dropWhatIsOver 25 = .ok (.iconst 0, 1) := by decide +kernel
theorem dX2_dropWhatIsOver_26 : decode cX2_dropWhatIsOver 26 = .ok (.invokevirtual 171, 3) := by decide +kernel
theorem dX2_dropWhatIsOver_29 : decode cX2_dropWhatIsOver 29 = .ok (.iinc 2 1, 3) := by decide +kernel
theorem dX2_dropWhatIsOver_32 : decode cX2_dropWhatIsOver 32 = .ok (.goto (-13), 3) := by decide +kernel
theorem dX2_dropWhatIsOver_35 : decode cX2_dropWhatIsOver 35 = .ok (.aload_n 0, 1) := by decide +kernel
theorem dX2_dropWhatIsOver_36 : decode cX2_dropWhatIsOver 36 = .ok (.dup, 1) := by decide +kernel
theorem dX2_dropWhatIsOver_37 : decode cX2_dropWhatIsOver 37 = .ok (.getfield 41, 3) := by decide +kernel
theorem dX2_dropWhatIsOver_40 : decode cX2_dropWhatIsOver 40 = .ok (.iload_n 1, 1) := by decide +kernel
theorem dX2_dropWhatIsOver_41 : decode cX2_dropWhatIsOver 41 = .ok (.iadd, 1) := by decide +kernel
theorem dX2_dropWhatIsOver_42 : decode cX2_dropWhatIsOver 42 = .ok (.putfield 41, 3) := by decide +kernel
theorem dX2_dropWhatIsOver_45 : decode cX2_dropWhatIsOver 45 = .ok (.iload_n 1, 1) := by decide +kernel
theorem dX2_dropWhatIsOver_46 : decode cX2_dropWhatIsOver 46 = .ok (.ireturn, 1) := by decide +kernel
