abbrev mX0_init : zM := (yX0_init, cX0_init, 2, none, 1, 20, 2, 5376)
theorem zk_X0_init : zcalI mX0_init := ⟨⟨(wr_1 _ (List.mem_of_getElem? (i := 16) rfl)), (wr_2 _ (List.mem_of_getElem? (i := 19) rfl))⟩, ⟨by decide +kernel, by decide +kernel, by decide +kernel⟩, by decide +kernel, (wr_2 _ (List.mem_of_getElem? (i := 18) rfl)), rfl, rfl⟩
abbrev mX1_init : zM := (yX1_init, cX1_init, 1, none, 1, 12, 1, 121)
theorem zk_X1_init : zcalI mX1_init := ⟨⟨(wr_2 _ (List.mem_of_getElem? (i := 3) rfl)), (wr_3 _ (List.mem_of_getElem? (i := 12) rfl))⟩, ⟨by decide +kernel, by decide +kernel, by decide +kernel⟩, by decide +kernel, (wr_3 _ (List.mem_of_getElem? (i := 11) rfl)), rfl, rfl⟩
abbrev mX2_init : zM := (yX2_init, cX2_init, 1, none, 1, 12, 3, 29048)
theorem zk_X2_init : zcalI mX2_init := ⟨⟨(wr_1 _ (List.mem_of_getElem? (i := 22) rfl)), (wr_3 _ (List.mem_of_getElem? (i := 5) rfl))⟩, ⟨by decide +kernel, by decide +kernel, by decide +kernel⟩, by decide +kernel, (wr_3 _ (List.mem_of_getElem? (i := 4) rfl)), rfl, rfl⟩
abbrev mX3_init : zM := (yX3_init, cX3_init, 1, none, 1, 12, 3, 6190)
theorem zk_X3_init : zcalI mX3_init := ⟨⟨(wr_2 _ (List.mem_of_getElem? (i := 6) rfl)), (wr_3 _ (List.mem_of_getElem? (i := 17) rfl))⟩, ⟨by decide +kernel, by decide +kernel, by decide +kernel⟩, by decide +kernel, (wr_3 _ (List.mem_of_getElem? (i := 16) rfl)), rfl, rfl⟩
abbrev mX4_init : zM := (yX4_init, cX4_init, 1, none, 1, 12, 1, 300)
theorem zk_X4_init : zcalI mX4_init := ⟨⟨(wr_2 _ (List.mem_of_getElem? (i := 14) rfl)), (wr_4 _ (List.mem_of_getElem? (i := 6) rfl))⟩, ⟨by decide +kernel, by decide +kernel, by decide +kernel⟩, by decide +kernel, (wr_4 _ (List.mem_of_getElem? (i := 5) rfl)), rfl, rfl⟩
abbrev mX5_init : zM := (yX5_init, cX5_init, 1, none, 1, 12, 1, 3600)
theorem zk_X5_init : zcalI mX5_init := ⟨⟨(wr_2 _ (List.mem_of_getElem? (i := 10) rfl)), (wr_4 _ (List.mem_of_getElem? (i := 1) rfl))⟩, ⟨by decide +kernel, by decide +kernel, by decide +kernel⟩, by decide +kernel, (wr_4 _ (List.mem_of_getElem? (i := 0) rfl)), rfl, rfl⟩
abbrev mX6_init : zM := (yX6_init, cX6_init, 2, none, 2, 41, 29, 45578)
theorem zk_X6_init : zcalI mX6_init := ⟨⟨(wr_1 _ (List.mem_of_getElem? (i := 2) rfl)), (wr_1 _ (List.mem_of_getElem? (i := 10) rfl))⟩, ⟨by decide +kernel, by decide +kernel, by decide +kernel⟩, by decide +kernel, (wr_1 _ (List.mem_of_getElem? (i := 9) rfl)), rfl, rfl⟩
abbrev mX7_init : zM := (yX7_init, cX7_init, 3, none, 1, 12, 18, 45574)
theorem zk_X7_init : zcalI mX7_init := ⟨⟨(wr_1 _ (List.mem_of_getElem? (i := 5) rfl)), (wr_4 _ (List.mem_of_getElem? (i := 11) rfl))⟩, ⟨by decide +kernel, by decide +kernel, by decide +kernel⟩, by decide +kernel, (wr_4 _ (List.mem_of_getElem? (i := 10) rfl)), rfl, rfl⟩
theorem zn_objI : Cond.instanceMethod objectInit ∈ wsL_law0 := (wr_1 _ (List.mem_of_getElem? (i := 12) rfl))
theorem zn_objC : Cond.code objectInit ⟨#[0xb1]⟩ 1 none ∈ wsL_law0 := (wr_1 _ (List.mem_of_getElem? (i := 13) rfl))
theorem zn_arrI : Cond.arrayClass .int ∈ wsL_law0 := (wr_2 _ (List.mem_of_getElem? (i := 21) rfl))
theorem zn_arrZ : Cond.arrayClass .boolean ∈ wsL_law0 := (wr_1 _ (List.mem_of_getElem? (i := 18) rfl))
theorem zo_X6 : Cond.methodLink RX6 1 objectInit ∈ wsL_law0 := (wr_1 _ (List.mem_of_getElem? (i := 11) rfl))
theorem zo_X0 : Cond.methodLink RX0 3 objectInit ∈ wsL_law0 := (wr_2 _ (List.mem_of_getElem? (i := 20) rfl))
theorem zo_X2 : Cond.methodLink RX2 3 objectInit ∈ wsL_law0 := (wr_3 _ (List.mem_of_getElem? (i := 6) rfl))
theorem zo_X1 : Cond.methodLink RX1 3 objectInit ∈ wsL_law0 := (wr_3 _ (List.mem_of_getElem? (i := 13) rfl))
theorem zo_X3 : Cond.methodLink RX3 3 objectInit ∈ wsL_law0 := (wr_3 _ (List.mem_of_getElem? (i := 18) rfl))
theorem zo_X5 : Cond.methodLink RX5 3 objectInit ∈ wsL_law0 := (wr_4 _ (List.mem_of_getElem? (i := 2) rfl))
theorem zo_X4 : Cond.methodLink RX4 3 objectInit ∈ wsL_law0 := (wr_4 _ (List.mem_of_getElem? (i := 7) rfl))
theorem zo_X7 : Cond.methodLink RX7 1 objectInit ∈ wsL_law0 := (wr_4 _ (List.mem_of_getElem? (i := 12) rfl))
theorem zl_X6_9 : Cond.methodLink RX6 9 yX0_init ∈ wsL_law0 := (wr_2 _ (List.mem_of_getElem? (i := 17) rfl))
theorem zl_X6_22 : Cond.methodLink RX6 22 yX2_init ∈ wsL_law0 := (wr_3 _ (List.mem_of_getElem? (i := 3) rfl))
theorem zl_X6_33 : Cond.methodLink RX6 33 yX1_init ∈ wsL_law0 := (wr_3 _ (List.mem_of_getElem? (i := 10) rfl))
theorem zl_X6_36 : Cond.methodLink RX6 36 yX3_init ∈ wsL_law0 := (wr_3 _ (List.mem_of_getElem? (i := 15) rfl))
theorem zl_X6_43 : Cond.methodLink RX6 43 yX5_init ∈ wsL_law0 := (wr_3 _ (List.mem_of_getElem? (i := 23) rfl))
theorem zl_X6_50 : Cond.methodLink RX6 50 yX4_init ∈ wsL_law0 := (wr_4 _ (List.mem_of_getElem? (i := 4) rfl))
theorem zq_X6_10 : zPuF RX6 10 8 0 (tyX6 0) := ⟨RX6, TX6, 10, tyX6, rfl, wi_X6, by decide, (wr_1 _ (List.mem_of_getElem? (i := 17) rfl)), tyX6_ok, nmX6, rfl, rfl, tyX6_ok 0 (by decide)⟩
theorem zq_X6_16 : zPuF RX6 16 8 1 (tyX6 1) := ⟨RX6, TX6, 10, tyX6, rfl, wi_X6, by decide, (wr_1 _ (List.mem_of_getElem? (i := 19) rfl)), tyX6_ok, nmX6, rfl, rfl, tyX6_ok 1 (by decide)⟩
theorem zq_X6_23 : zPuF RX6 23 8 2 (tyX6 2) := ⟨RX6, TX6, 10, tyX6, rfl, wi_X6, by decide, (wr_1 _ (List.mem_of_getElem? (i := 23) rfl)), tyX6_ok, nmX6, rfl, rfl, tyX6_ok 2 (by decide)⟩
theorem zq_X6_29 : zPuF RX6 29 8 3 (tyX6 3) := ⟨RX6, TX6, 10, tyX6, rfl, wi_X6, by decide, (wr_2 _ (List.mem_of_getElem? (i := 1) rfl)), tyX6_ok, nmX6, rfl, rfl, tyX6_ok 3 (by decide)⟩
theorem zq_X6_37 : zPuF RX6 37 8 4 (tyX6 4) := ⟨RX6, TX6, 10, tyX6, rfl, wi_X6, by decide, (wr_2 _ (List.mem_of_getElem? (i := 7) rfl)), tyX6_ok, nmX6, rfl, rfl, tyX6_ok 4 (by decide)⟩
theorem zq_X6_44 : zPuF RX6 44 8 5 (tyX6 5) := ⟨RX6, TX6, 10, tyX6, rfl, wi_X6, by decide, (wr_2 _ (List.mem_of_getElem? (i := 11) rfl)), tyX6_ok, nmX6, rfl, rfl, tyX6_ok 5 (by decide)⟩
theorem zq_X6_51 : zPuF RX6 51 8 6 (tyX6 6) := ⟨RX6, TX6, 10, tyX6, rfl, wi_X6, by decide, (wr_2 _ (List.mem_of_getElem? (i := 15) rfl)), tyX6_ok, nmX6, rfl, rfl, tyX6_ok 6 (by decide)⟩
theorem zq_X0_9 : zPuF RX0 9 2 0 (tyX0 0) := ⟨RX0, TX0, 3, tyX0, rfl, wi_X0, by decide, (wr_2 _ (List.mem_of_getElem? (i := 22) rfl)), tyX0_ok, nmX0, rfl, rfl, tyX0_ok 0 (by decide)⟩
theorem zq_X0_15 : zPuF RX0 15 2 1 (tyX0 1) := ⟨RX0, TX0, 3, tyX0, rfl, wi_X0, by decide, (wr_2 _ (List.mem_of_getElem? (i := 23) rfl)), tyX0_ok, nmX0, rfl, rfl, tyX0_ok 1 (by decide)⟩
theorem zq_X2_9 : zPuF RX2 9 4 0 (tyX2 0) := ⟨RX2, TX2, 4, tyX2, rfl, wi_X2, by decide, (wr_3 _ (List.mem_of_getElem? (i := 7) rfl)), tyX2_ok, nmX2, rfl, rfl, tyX2_ok 0 (by decide)⟩
theorem zq_X2_15 : zPuF RX2 15 4 1 (tyX2 1) := ⟨RX2, TX2, 4, tyX2, rfl, wi_X2, by decide, (wr_3 _ (List.mem_of_getElem? (i := 8) rfl)), tyX2_ok, nmX2, rfl, rfl, tyX2_ok 1 (by decide)⟩
theorem zq_X2_18 : zPuF RX2 18 4 2 (tyX2 2) := ⟨RX2, TX2, 4, tyX2, rfl, wi_X2, by decide, (wr_3 _ (List.mem_of_getElem? (i := 9) rfl)), tyX2_ok, nmX2, rfl, rfl, tyX2_ok 2 (by decide)⟩
theorem zq_X1_9 : zPuF RX1 9 3 0 (tyX1 0) := ⟨RX1, TX1, 10, tyX1, rfl, wi_X1, by decide, (wr_3 _ (List.mem_of_getElem? (i := 14) rfl)), tyX1_ok, nmX1, rfl, rfl, tyX1_ok 0 (by decide)⟩
theorem zq_X3_9 : zPuF RX3 9 5 0 (tyX3 0) := ⟨RX3, TX3, 5, tyX3, rfl, wi_X3, by decide, (wr_3 _ (List.mem_of_getElem? (i := 19) rfl)), tyX3_ok, nmX3, rfl, rfl, tyX3_ok 0 (by decide)⟩
theorem zq_X3_15 : zPuF RX3 15 5 1 (tyX3 1) := ⟨RX3, TX3, 5, tyX3, rfl, wi_X3, by decide, (wr_3 _ (List.mem_of_getElem? (i := 20) rfl)), tyX3_ok, nmX3, rfl, rfl, tyX3_ok 1 (by decide)⟩
theorem zq_X3_18 : zPuF RX3 18 5 2 (tyX3 2) := ⟨RX3, TX3, 5, tyX3, rfl, wi_X3, by decide, (wr_3 _ (List.mem_of_getElem? (i := 21) rfl)), tyX3_ok, nmX3, rfl, rfl, tyX3_ok 2 (by decide)⟩
theorem zq_X5_9 : zPuF RX5 9 7 0 (tyX5 0) := ⟨RX5, TX5, 2, tyX5, rfl, wi_X5, by decide, (wr_4 _ (List.mem_of_getElem? (i := 3) rfl)), tyX5_ok, nmX5, rfl, rfl, tyX5_ok 0 (by decide)⟩
theorem zq_X4_9 : zPuF RX4 9 6 0 (tyX4 0) := ⟨RX4, TX4, 2, tyX4, rfl, wi_X4, by decide, (wr_4 _ (List.mem_of_getElem? (i := 8) rfl)), tyX4_ok, nmX4, rfl, rfl, tyX4_ok 0 (by decide)⟩
theorem zq_X7_7 : zPuF RX7 7 9 1 (tyX7 1) := ⟨RX7, TX7, 30, tyX7, rfl, wi_X7, by decide, (wr_4 _ (List.mem_of_getElem? (i := 13) rfl)), tyX7_ok, nmX7, rfl, rfl, tyX7_ok 1 (by decide)⟩
theorem zq_X7_13 : zPuF RX7 13 9 2 (tyX7 2) := ⟨RX7, TX7, 30, tyX7, rfl, wi_X7, by decide, (wr_4 _ (List.mem_of_getElem? (i := 14) rfl)), tyX7_ok, nmX7, rfl, rfl, tyX7_ok 2 (by decide)⟩
theorem zq_X7_16 : zPuF RX7 16 9 4 (tyX7 4) := ⟨RX7, TX7, 30, tyX7, rfl, wi_X7, by decide, (wr_4 _ (List.mem_of_getElem? (i := 15) rfl)), tyX7_ok, nmX7, rfl, rfl, tyX7_ok 4 (by decide)⟩
theorem zq_X7_24 : zPuF RX7 24 9 7 (tyX7 7) := ⟨RX7, TX7, 30, tyX7, rfl, wi_X7, by decide, (wr_4 _ (List.mem_of_getElem? (i := 17) rfl)), tyX7_ok, nmX7, rfl, rfl, tyX7_ok 7 (by decide)⟩
theorem zq_X7_27 : zPuF RX7 27 9 8 (tyX7 8) := ⟨RX7, TX7, 30, tyX7, rfl, wi_X7, by decide, (wr_4 _ (List.mem_of_getElem? (i := 18) rfl)), tyX7_ok, nmX7, rfl, rfl, tyX7_ok 8 (by decide)⟩
theorem zq_X7_30 : zPuF RX7 30 9 9 (tyX7 9) := ⟨RX7, TX7, 30, tyX7, rfl, wi_X7, by decide, (wr_4 _ (List.mem_of_getElem? (i := 19) rfl)), tyX7_ok, nmX7, rfl, rfl, tyX7_ok 9 (by decide)⟩
theorem zq_X7_33 : zPuF RX7 33 9 11 (tyX7 11) := ⟨RX7, TX7, 30, tyX7, rfl, wi_X7, by decide, (wr_4 _ (List.mem_of_getElem? (i := 20) rfl)), tyX7_ok, nmX7, rfl, rfl, tyX7_ok 11 (by decide)⟩
theorem zq_X7_36 : zPuF RX7 36 9 12 (tyX7 12) := ⟨RX7, TX7, 30, tyX7, rfl, wi_X7, by decide, (wr_4 _ (List.mem_of_getElem? (i := 21) rfl)), tyX7_ok, nmX7, rfl, rfl, tyX7_ok 12 (by decide)⟩
theorem zq_X7_39 : zPuF RX7 39 9 13 (tyX7 13) := ⟨RX7, TX7, 30, tyX7, rfl, wi_X7, by decide, (wr_4 _ (List.mem_of_getElem? (i := 22) rfl)), tyX7_ok, nmX7, rfl, rfl, tyX7_ok 13 (by decide)⟩
theorem zq_X7_42 : zPuF RX7 42 9 14 (tyX7 14) := ⟨RX7, TX7, 30, tyX7, rfl, wi_X7, by decide, (wr_4 _ (List.mem_of_getElem? (i := 23) rfl)), tyX7_ok, nmX7, rfl, rfl, tyX7_ok 14 (by decide)⟩
theorem zq_X7_45 : zPuF RX7 45 9 15 (tyX7 15) := ⟨RX7, TX7, 30, tyX7, rfl, wi_X7, by decide, (wr_5 _ (List.mem_of_getElem? (i := 0) rfl)), tyX7_ok, nmX7, rfl, rfl, tyX7_ok 15 (by decide)⟩
theorem zq_X7_48 : zPuF RX7 48 9 16 (tyX7 16) := ⟨RX7, TX7, 30, tyX7, rfl, wi_X7, by decide, (wr_5 _ (List.mem_of_getElem? (i := 1) rfl)), tyX7_ok, nmX7, rfl, rfl, tyX7_ok 16 (by decide)⟩
theorem zq_X7_51 : zPuF RX7 51 9 17 (tyX7 17) := ⟨RX7, TX7, 30, tyX7, rfl, wi_X7, by decide, (wr_5 _ (List.mem_of_getElem? (i := 2) rfl)), tyX7_ok, nmX7, rfl, rfl, tyX7_ok 17 (by decide)⟩
theorem zq_X7_54 : zPuF RX7 54 9 20 (tyX7 20) := ⟨RX7, TX7, 30, tyX7, rfl, wi_X7, by decide, (wr_5 _ (List.mem_of_getElem? (i := 3) rfl)), tyX7_ok, nmX7, rfl, rfl, tyX7_ok 20 (by decide)⟩
theorem zq_X7_57 : zPuF RX7 57 9 22 (tyX7 22) := ⟨RX7, TX7, 30, tyX7, rfl, wi_X7, by decide, (wr_5 _ (List.mem_of_getElem? (i := 4) rfl)), tyX7_ok, nmX7, rfl, rfl, tyX7_ok 22 (by decide)⟩
theorem zq_X7_60 : zPuF RX7 60 9 23 (tyX7 23) := ⟨RX7, TX7, 30, tyX7, rfl, wi_X7, by decide, (wr_5 _ (List.mem_of_getElem? (i := 5) rfl)), tyX7_ok, nmX7, rfl, rfl, tyX7_ok 23 (by decide)⟩
theorem zq_X7_63 : zPuF RX7 63 9 25 (tyX7 25) := ⟨RX7, TX7, 30, tyX7, rfl, wi_X7, by decide, (wr_5 _ (List.mem_of_getElem? (i := 6) rfl)), tyX7_ok, nmX7, rfl, rfl, tyX7_ok 25 (by decide)⟩
theorem zq_X7_66 : zPuF RX7 66 9 28 (tyX7 28) := ⟨RX7, TX7, 30, tyX7, rfl, wi_X7, by decide, (wr_5 _ (List.mem_of_getElem? (i := 7) rfl)), tyX7_ok, nmX7, rfl, rfl, tyX7_ok 28 (by decide)⟩
theorem zc_X6_7 : Cond.classLink RX6 7 RX0 ∈ wsL_law0 := (wr_1 _ (List.mem_of_getElem? (i := 14) rfl))
theorem zw_X6_7 : zNew RX6 7 2 3 [.null, .null, .int (zI 0)] := ⟨RX0, TX0, tyX0, rfl, wi_X0, tyX0_ok, zc_X6_7, (wr_1 _ (List.mem_of_getElem? (i := 15) rfl)), (wr_1 _ (List.mem_of_getElem? (i := 16) rfl)), fun j hj => by rcases (show j = 0 ∨ j = 1 ∨ j = 2 by omega) with rfl | rfl | rfl <;> rfl⟩
theorem zc_X6_20 : Cond.classLink RX6 20 RX2 ∈ wsL_law0 := (wr_1 _ (List.mem_of_getElem? (i := 20) rfl))
theorem zw_X6_20 : zNew RX6 20 4 4 [.null, .null, .null, .int (zI 0)] := ⟨RX2, TX2, tyX2, rfl, wi_X2, tyX2_ok, zc_X6_20, (wr_1 _ (List.mem_of_getElem? (i := 21) rfl)), (wr_1 _ (List.mem_of_getElem? (i := 22) rfl)), fun j hj => by rcases (show j = 0 ∨ j = 1 ∨ j = 2 ∨ j = 3 by omega) with rfl | rfl | rfl | rfl <;> rfl⟩
theorem zc_X6_27 : Cond.classLink RX6 27 RX1 ∈ wsL_law0 := (wr_2 _ (List.mem_of_getElem? (i := 0) rfl))
theorem zw_X6_27 : zNew RX6 27 3 10 [.null, .int (zI 0), .int (zI 0), .int (zI 0), .int (zI 0), .int (zI 0), .int (zI 0), .int (zI 0), .int (zI 0), .int (zI 0)] := ⟨RX1, TX1, tyX1, rfl, wi_X1, tyX1_ok, zc_X6_27, (wr_2 _ (List.mem_of_getElem? (i := 2) rfl)), (wr_2 _ (List.mem_of_getElem? (i := 3) rfl)), fun j hj => by rcases (show j = 0 ∨ j = 1 ∨ j = 2 ∨ j = 3 ∨ j = 4 ∨ j = 5 ∨ j = 6 ∨ j = 7 ∨ j = 8 ∨ j = 9 by omega) with rfl | rfl | rfl | rfl | rfl | rfl | rfl | rfl | rfl | rfl <;> rfl⟩
theorem zc_X6_34 : Cond.classLink RX6 34 RX3 ∈ wsL_law0 := (wr_2 _ (List.mem_of_getElem? (i := 4) rfl))
theorem zw_X6_34 : zNew RX6 34 5 5 [.null, .null, .null, .int (zI 0), .int (zI 0)] := ⟨RX3, TX3, tyX3, rfl, wi_X3, tyX3_ok, zc_X6_34, (wr_2 _ (List.mem_of_getElem? (i := 5) rfl)), (wr_2 _ (List.mem_of_getElem? (i := 6) rfl)), fun j hj => by rcases (show j = 0 ∨ j = 1 ∨ j = 2 ∨ j = 3 ∨ j = 4 by omega) with rfl | rfl | rfl | rfl | rfl <;> rfl⟩
theorem zc_X6_41 : Cond.classLink RX6 41 RX5 ∈ wsL_law0 := (wr_2 _ (List.mem_of_getElem? (i := 8) rfl))
theorem zw_X6_41 : zNew RX6 41 7 2 [.null, .int (zI 0)] := ⟨RX5, TX5, tyX5, rfl, wi_X5, tyX5_ok, zc_X6_41, (wr_2 _ (List.mem_of_getElem? (i := 9) rfl)), (wr_2 _ (List.mem_of_getElem? (i := 10) rfl)), fun j hj => by rcases (show j = 0 ∨ j = 1 by omega) with rfl | rfl <;> rfl⟩
theorem zc_X6_48 : Cond.classLink RX6 48 RX4 ∈ wsL_law0 := (wr_2 _ (List.mem_of_getElem? (i := 12) rfl))
theorem zw_X6_48 : zNew RX6 48 6 2 [.null, .int (zI 0)] := ⟨RX4, TX4, tyX4, rfl, wi_X4, tyX4_ok, zc_X6_48, (wr_2 _ (List.mem_of_getElem? (i := 13) rfl)), (wr_2 _ (List.mem_of_getElem? (i := 14) rfl)), fun j hj => by rcases (show j = 0 ∨ j = 1 by omega) with rfl | rfl <;> rfl⟩
def zlet (s : Int) : Int := if (65 ≤ s ∧ s ≤ 90) ∨ (97 ≤ s ∧ s ≤ 122) then 11 else 12
def zz0 : zSt := (fun _ _ => 0, fun _ _ => 0)
theorem zz0_R : zRg zz0 := ⟨fun _ _ => (show zR 0 from ⟨by decide, by decide⟩), fun _ _ => (show zR 0 from ⟨by decide, by decide⟩)⟩
def zcatS : zSt := zsA (zsA (zsA (zsA (zsA (zsA (zsA (zsA (zsA (zsA (zsB zz0 1 0 256 zlet) 1 92 0) 1 123 1) 1 125 2) 1 13 5) 1 94 7) 1 0 9) 1 32 10) 1 126 13) 1 37 14) 1 127 15
def zS3 : zSt := zsF (zsA (zsA (zsA (zsA zz0 1 0 112) 1 1 97) 1 2 114) 2 0 3) 0 3 1

section zNs2
variable {G : zG} {k : zM} {kc ks pc : Nat} {lv : List (Option Value)} {st : List Value} {ws : va_W} {Post : va_W → Prop}
theorem n_istore {q : Fin 4} {i : Nat} {x : Int32} (hd : decode k.2.1 pc = .ok (.istore_n q, 1)) (hi : (q : Nat) = i) (hil : i < lv.length) (hin : i < k.2.2.1) (hp : zpv lv i) (kk : zN G k kc ks (pc + 1) (lv.set i (some (.int x))) st ws Post) : zN G k kc ks pc lv (.int x :: st) ws Post := by
  intro p e s m args below meth c H locs A ls C hP hD hS hl
  exact lv_istore_n (lv' := (i, .int x) :: (zlv 0 lv).filter (fun q => !(q.1 == i) && !(q.1 + 1 == i && q.2.category == 2))) C.1 C.2.1 hd hi hl hin rfl (fun ls1 hl1 => kk p e s m args below meth c H locs A ls1 C hP hD hS (zlv_set hil hp hl1))
theorem n_iinc {i : Nat} {n a : Int} (hd : decode k.2.1 pc = .ok (.iinc i n, 3)) (h : lv[i]? = some (some (.int (zI a)))) (hin : i < k.2.2.1) (hp : zpv lv i) (kk : zN G k kc ks (pc + 3) (lv.set i (some (.int (zI (a + n))))) st ws Post) : zN G k kc ks pc lv st ws Post := by
  intro p e s m args below meth c H locs A ls C hP hD hS hl
  obtain ⟨q, hq⟩ := List.getElem?_of_mem ((zlv_mem 0 (i, Value.int (zI a))).mpr ⟨i, h, by omega⟩)
  exact lv_iinc C.1 C.2.1 hd hl hq (zI_add a n) hin rfl (fun ls1 hl1 => kk p e s m args below meth c H locs A ls1 C hP hD hS (zlv_set (List.getElem?_eq_some_iff.mp h).1 hp hl1))
end zNs2
