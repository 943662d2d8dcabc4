/-! facts of the box, decode rows of the class (wip/safe/mks.py) -/
theorem zt_m1000000 : ((-1000000) : Int32).toInt = -1000000 := by decide
theorem zt_m20 : ((-20) : Int32).toInt = -20 := by decide
theorem zt_m19 : ((-19) : Int32).toInt = -19 := by decide
theorem zt_m18 : ((-18) : Int32).toInt = -18 := by decide
theorem zt_m17 : ((-17) : Int32).toInt = -17 := by decide
theorem zt_m16 : ((-16) : Int32).toInt = -16 := by decide
theorem zt_m15 : ((-15) : Int32).toInt = -15 := by decide
theorem zt_m14 : ((-14) : Int32).toInt = -14 := by decide
theorem zt_m13 : ((-13) : Int32).toInt = -13 := by decide
theorem zt_m12 : ((-12) : Int32).toInt = -12 := by decide
theorem zt_m11 : ((-11) : Int32).toInt = -11 := by decide
theorem zt_m10 : ((-10) : Int32).toInt = -10 := by decide
theorem zt_m9 : ((-9) : Int32).toInt = -9 := by decide
theorem zt_m8 : ((-8) : Int32).toInt = -8 := by decide
theorem zt_m1 : ((-1) : Int32).toInt = -1 := by decide
theorem zi_m1 : Int32.ofInt (-1) = (-1) := by decide
theorem zt_0 : (0 : Int32).toInt = 0 := by decide
theorem zi_0 : Int32.ofInt (0) = 0 := by decide
theorem zt_1 : (1 : Int32).toInt = 1 := by decide
theorem zi_1 : Int32.ofInt (1) = 1 := by decide
theorem zt_2 : (2 : Int32).toInt = 2 := by decide
theorem zi_2 : Int32.ofInt (2) = 2 := by decide
theorem zt_3 : (3 : Int32).toInt = 3 := by decide
theorem zi_3 : Int32.ofInt (3) = 3 := by decide
theorem zt_4 : (4 : Int32).toInt = 4 := by decide
theorem zi_4 : Int32.ofInt (4) = 4 := by decide
theorem zt_5 : (5 : Int32).toInt = 5 := by decide
theorem zi_5 : Int32.ofInt (5) = 5 := by decide
theorem zt_6 : (6 : Int32).toInt = 6 := by decide
theorem zt_7 : (7 : Int32).toInt = 7 := by decide
theorem zt_8 : (8 : Int32).toInt = 8 := by decide
theorem zt_9 : (9 : Int32).toInt = 9 := by decide
theorem zt_10 : (10 : Int32).toInt = 10 := by decide
theorem zt_11 : (11 : Int32).toInt = 11 := by decide
theorem zt_12 : (12 : Int32).toInt = 12 := by decide
theorem zt_13 : (13 : Int32).toInt = 13 := by decide
theorem zt_14 : (14 : Int32).toInt = 14 := by decide
theorem zt_15 : (15 : Int32).toInt = 15 := by decide
theorem zt_16 : (16 : Int32).toInt = 16 := by decide
theorem zt_17 : (17 : Int32).toInt = 17 := by decide
theorem zt_18 : (18 : Int32).toInt = 18 := by decide
theorem zt_19 : (19 : Int32).toInt = 19 := by decide
theorem zt_20 : (20 : Int32).toInt = 20 := by decide
theorem zt_21 : (21 : Int32).toInt = 21 := by decide
theorem zt_22 : (22 : Int32).toInt = 22 := by decide
theorem zt_23 : (23 : Int32).toInt = 23 := by decide
theorem zt_24 : (24 : Int32).toInt = 24 := by decide
theorem zt_25 : (25 : Int32).toInt = 25 := by decide
theorem zt_26 : (26 : Int32).toInt = 26 := by decide
theorem zt_27 : (27 : Int32).toInt = 27 := by decide
theorem zt_31 : (31 : Int32).toInt = 31 := by decide
theorem zt_32 : (32 : Int32).toInt = 32 := by decide
theorem zt_37 : (37 : Int32).toInt = 37 := by decide
theorem zt_40 : (40 : Int32).toInt = 40 := by decide
theorem zt_41 : (41 : Int32).toInt = 41 := by decide
theorem zt_42 : (42 : Int32).toInt = 42 := by decide
theorem zt_43 : (43 : Int32).toInt = 43 := by decide
theorem zt_44 : (44 : Int32).toInt = 44 := by decide
theorem zt_45 : (45 : Int32).toInt = 45 := by decide
theorem zt_47 : (47 : Int32).toInt = 47 := by decide
theorem zt_48 : (48 : Int32).toInt = 48 := by decide
theorem zt_57 : (57 : Int32).toInt = 57 := by decide
theorem zt_59 : (59 : Int32).toInt = 59 := by decide
theorem zt_60 : (60 : Int32).toInt = 60 := by decide
theorem zt_61 : (61 : Int32).toInt = 61 := by decide
theorem zt_62 : (62 : Int32).toInt = 62 := by decide
theorem zt_63 : (63 : Int32).toInt = 63 := by decide
theorem zt_64 : (64 : Int32).toInt = 64 := by decide
theorem zt_89 : (89 : Int32).toInt = 89 := by decide
theorem zt_90 : (90 : Int32).toInt = 90 := by decide
theorem zt_91 : (91 : Int32).toInt = 91 := by decide
theorem zt_93 : (93 : Int32).toInt = 93 := by decide
theorem zt_97 : (97 : Int32).toInt = 97 := by decide
theorem zt_99 : (99 : Int32).toInt = 99 := by decide
theorem zt_100 : (100 : Int32).toInt = 100 := by decide
theorem zt_109 : (109 : Int32).toInt = 109 := by decide
theorem zt_122 : (122 : Int32).toInt = 122 := by decide
theorem zt_200 : (200 : Int32).toInt = 200 := by decide
theorem zt_251 : (251 : Int32).toInt = 251 := by decide
theorem zt_255 : (255 : Int32).toInt = 255 := by decide
theorem zt_256 : (256 : Int32).toInt = 256 := by decide
theorem zt_445 : (445 : Int32).toInt = 445 := by decide
theorem zt_720 : (720 : Int32).toInt = 720 := by decide
theorem zt_999 : (999 : Int32).toInt = 999 := by decide
theorem zt_1000 : (1000 : Int32).toInt = 1000 := by decide
theorem zt_1023 : (1023 : Int32).toInt = 1023 := by decide
theorem zt_1600 : (1600 : Int32).toInt = 1600 := by decide
theorem zt_2046 : (2046 : Int32).toInt = 2046 := by decide
theorem zt_2047 : (2047 : Int32).toInt = 2047 := by decide
theorem zt_9999 : (9999 : Int32).toInt = 9999 := by decide
theorem zt_1000000 : (1000000 : Int32).toInt = 1000000 := by decide
theorem zt_252645135 : (252645135 : Int32).toInt = 252645135 := by decide
theorem zt_858993459 : (858993459 : Int32).toInt = 858993459 := by decide
theorem zt_1431655765 : (1431655765 : Int32).toInt = 1431655765 := by decide
theorem ztl_m1000000 : (-1000000 : Int64).toInt = -1000000 := by decide
theorem ztl_0 : (0 : Int64).toInt = 0 := by decide
theorem ztl_1 : (1 : Int64).toInt = 1 := by decide
theorem ztl_64 : (64 : Int64).toInt = 64 := by decide
theorem ztl_255 : (255 : Int64).toInt = 255 := by decide
theorem ztl_12345 : (12345 : Int64).toInt = 12345 := by decide
theorem ztl_24948 : (24948 : Int64).toInt = 24948 := by decide
theorem ztl_28530 : (28530 : Int64).toInt = 28530 := by decide
theorem ztl_1000000 : (1000000 : Int64).toInt = 1000000 := by decide
theorem ztl_6384748 : (6384748 : Int64).toInt = 6384748 := by decide
theorem ztl_6385252 : (6385252 : Int64).toInt = 6385252 := by decide
theorem ztl_6451065 : (6451065 : Int64).toInt = 6451065 := by decide
theorem ztl_7168376 : (7168376 : Int64).toInt = 7168376 := by decide
theorem ztl_7170414 : (7170414 : Int64).toInt = 7170414 := by decide
theorem ztl_7237492 : (7237492 : Int64).toInt = 7237492 := by decide
theorem ztl_7632231 : (7632231 : Int64).toInt = 7632231 := by decide
theorem ztl_1103515245 : (1103515245 : Int64).toInt = 1103515245 := by decide
theorem ztl_1684366704 : (1684366704 : Int64).toInt = 1684366704 := by decide
theorem ztl_1717922932 : (1717922932 : Int64).toInt = 1717922932 := by decide
theorem ztl_1868850291 : (1868850291 : Int64).toInt = 1868850291 := by decide
theorem ztl_1885434739 : (1885434739 : Int64).toInt = 1885434739 := by decide
theorem ztl_2003330414 : (2003330414 : Int64).toInt = 2003330414 := by decide
theorem ztl_2147483647 : (2147483647 : Int64).toInt = 2147483647 := by decide
theorem ztl_2147483648 : (2147483648 : Int64).toInt = 2147483648 := by decide
theorem ztl_431198598248 : (431198598248 : Int64).toInt = 431198598248 := by decide
theorem ztl_431415976301 : (431415976301 : Int64).toInt = 431415976301 := by decide
theorem ztl_439956431717 : (439956431717 : Int64).toInt = 439956431717 := by decide
theorem ztl_444133766004 : (444133766004 : Int64).toInt = 444133766004 := by decide
theorem ztl_465491424371 : (465491424371 : Int64).toInt = 465491424371 := by decide
theorem ztl_482854658917 : (482854658917 : Int64).toInt = 482854658917 := by decide
theorem ztl_483006377075 : (483006377075 : Int64).toInt = 483006377075 := by decide
theorem ztl_495739560811 : (495739560811 : Int64).toInt = 495739560811 := by decide
theorem ztl_108187867505765 : (108187867505765 : Int64).toInt = 108187867505765 := by decide
theorem ztl_120299592184933 : (120299592184933 : Int64).toInt = 120299592184933 := by decide
theorem ztl_123563851081075 : (123563851081075 : Int64).toInt = 123563851081075 := by decide
theorem ztl_126918153364851 : (126918153364851 : Int64).toInt = 126918153364851 := by decide
theorem ztl_131277443786868 : (131277443786868 : Int64).toInt = 131277443786868 := by decide
theorem hb_6_367 : zRp 367 := by unfold zRp; decide +kernel
theorem hb_6_49 : zRp 49 := by unfold zRp; decide +kernel
theorem hb_6_63 : zRp 63 := by unfold zRp; decide +kernel
theorem hb_7_360 : zTg 360 := by unfold zTg; decide +kernel
theorem hb_7_362 : zTg 362 := by unfold zTg; decide +kernel
theorem hb_7_381 : zTg 381 := by unfold zTg; decide +kernel
theorem zd_0_3 {N : Nat} {M : zM} (hB : zB N M) : ∃ b : Nat, zvl M 0 3 = some (.ref b) ∧ zDm b := by
  obtain ⟨b, h1, h2⟩ := zB_two (b := 7) (c := 28) (kind := 8) (n := 16) hB (by decide +kernel) (by decide) (show zT 0 3 = (3, ((7 : Nat) : Int), ((28 : Nat) : Int)) by decide +kernel)
  refine ⟨b, h1, ?_⟩
  rcases h2 with rfl | rfl
  · unfold zDm; decide +kernel
  · unfold zDm; decide +kernel
theorem zd_2_8 {N : Nat} {M : zM} (hB : zB N M) : ∃ b : Nat, zvl M 2 8 = some (.ref b) ∧ zDm b := by
  obtain ⟨b, h1, h2⟩ := zB_two (b := 7) (c := 28) (kind := 5) (n := 11) hB (by decide +kernel) (by decide) (show zT 2 8 = (3, ((7 : Nat) : Int), ((28 : Nat) : Int)) by decide +kernel)
  refine ⟨b, h1, ?_⟩
  rcases h2 with rfl | rfl
  · unfold zDm; decide +kernel
  · unfold zDm; decide +kernel
theorem zo_0_1 : zT 0 1 = (0, 0, 1600) := by decide +kernel
theorem zo_0_11 : zT 0 11 = (0, 0, 1) := by decide +kernel
theorem zo_0_13 : zT 0 13 = (0, 0, 109) := by decide +kernel
theorem zo_0_15 : zT 0 15 = (0, -2147483648, 2147483647) := by decide +kernel
theorem zo_0_3 : zT 0 3 = (3, 7, 28) := by decide +kernel
theorem zo_1_0_0 {r : Nat} (h : zDm r) : zT (r) 0 = (0, 0, 90) := (by decide +kernel : ∀ r ∈ zDmL, zT (r) 0 = (0, 0, 90)) r h
theorem zo_1_0_1 {r : Nat} (h : zDm r) : zT (r) 1 = (0, 0, 12) := (by decide +kernel : ∀ r ∈ zDmL, zT (r) 1 = (0, 0, 12)) r h
theorem zo_1_0_2 {r : Nat} (h : zDm r) : zT (r) 2 = (0, 0, 6) := (by decide +kernel : ∀ r ∈ zDmL, zT (r) 2 = (0, 0, 6)) r h
theorem zo_1_13_0 {r : Nat} (h : zDm r) : zT (r + 13) 0 = (0, 0, 8) := (by decide +kernel : ∀ r ∈ zDmL, zT (r + 13) 0 = (0, 0, 8)) r h
theorem zo_2_0 : zT 2 0 = (0, 0, 5) := by decide +kernel
theorem zo_2_0_0 {r : Nat} (h : zLw r) : zT (r) 0 = (0, 0, 8) := (by decide +kernel : ∀ r ∈ zLwL, zT (r) 0 = (0, 0, 8)) r h
theorem zo_2_0_1 {r : Nat} (h : zLw r) : zT (r) 1 = (0, 0, 1600) := (by decide +kernel : ∀ r ∈ zLwL, zT (r) 1 = (0, 0, 1600)) r h
theorem zo_2_1 : zT 2 1 = (0, -2147483648, 2147483647) := by decide +kernel
theorem zo_2_10 : zT 2 10 = (0, -2147483648, 2147483647) := by decide +kernel
theorem zo_2_6 : zT 2 6 = (0, 0, 1601) := by decide +kernel
theorem zo_2_7 : zT 2 7 = (0, 0, 1600) := by decide +kernel
theorem zo_2_8 : zT 2 8 = (3, 7, 28) := by decide +kernel
theorem zo_2_9 : zT 2 9 = (0, -2147483648, 2147483647) := by decide +kernel
theorem zo_359_0 : zT 359 0 = (0, -2147483648, 2147483647) := by decide +kernel
theorem zo_360_1 : zT 360 1 = (0, 0, 4095) := by decide +kernel
theorem zo_362_1 : zT 362 1 = (0, 0, 4095) := by decide +kernel
theorem zo_364_0 : zT 364 0 = (0, -2147483648, 2147483647) := by decide +kernel
theorem zo_364_2 : zT 364 2 = (0, -2147483648, 2147483647) := by decide +kernel
theorem zo_364_3 : zT 364 3 = (0, -2147483648, 2147483647) := by decide +kernel
theorem zo_364_5 : zT 364 5 = (0, -2147483648, 2147483647) := by decide +kernel
theorem zo_364_6 : zT 364 6 = (0, 0, 4095) := by decide +kernel
theorem zo_364_7 : zT 364 7 = (0, -2147483648, 2147483647) := by decide +kernel
theorem zo_364_8 : zT 364 8 = (0, -2147483648, 2147483647) := by decide +kernel
theorem zo_364_9 : zT 364 9 = (0, -2147483648, 2147483647) := by decide +kernel
theorem zo_367_0 : zT 367 0 = (0, 0, 12) := by decide +kernel
theorem zo_381_1 : zT 381 1 = (0, 0, 4095) := by decide +kernel
theorem zo_386_1 : zT 386 1 = (0, 0, 1600) := by decide +kernel
theorem zo_386_10 : zT 386 10 = (0, 0, 5) := by decide +kernel
theorem zo_386_11 : zT 386 11 = (0, -1, 1600) := by decide +kernel
theorem zo_386_12 : zT 386 12 = (0, 0, 1) := by decide +kernel
theorem zo_386_2 : zT 386 2 = (0, 0, 1600) := by decide +kernel
theorem zo_386_3 : zT 386 3 = (0, 0, 3) := by decide +kernel
theorem zo_386_34 : zT 386 34 = (0, 0, 1600) := by decide +kernel
theorem zo_386_35 : zT 386 35 = (0, 0, 1) := by decide +kernel
theorem zo_386_4 : zT 386 4 = (0, 0, 1600) := by decide +kernel
theorem zo_386_41 : zT 386 41 = (0, 0, 20) := by decide +kernel
theorem zo_386_42 : zT 386 42 = (0, 0, 8) := by decide +kernel
theorem zo_386_44 : zT 386 44 = (0, 0, 500) := by decide +kernel
theorem zo_386_45 : zT 386 45 = (0, 0, 1) := by decide +kernel
theorem zo_386_5 : zT 386 5 = (0, 0, 1600) := by decide +kernel
theorem zo_386_6 : zT 386 6 = (0, -2147483648, 2147483647) := by decide +kernel
theorem zo_386_64 : zT 386 64 = (0, 0, 19) := by decide +kernel
theorem zo_386_65 : zT 386 65 = (0, 0, 20) := by decide +kernel
theorem zo_386_66 : zT 386 66 = (1, 0, 2147483647) := by decide +kernel
theorem zo_386_68 : zT 386 68 = (0, 0, 1) := by decide +kernel
theorem zo_386_7 : zT 386 7 = (1, -9223372036854775808, 9223372036854775807) := by decide +kernel
theorem zo_386_70 : zT 386 70 = (0, 0, 12) := by decide +kernel
theorem zo_386_71 : zT 386 71 = (0, 0, 1) := by decide +kernel
theorem zo_386_72 : zT 386 72 = (0, 0, 1) := by decide +kernel
theorem zo_386_74 : zT 386 74 = (0, 0, 4095) := by decide +kernel
theorem zo_386_75 : zT 386 75 = (0, -2147483648, 2147483647) := by decide +kernel
theorem zo_386_77 : zT 386 77 = (0, -2147483648, 2147483647) := by decide +kernel
theorem zo_386_8 : zT 386 8 = (0, 0, 5) := by decide +kernel
theorem zo_386_81 : zT 386 81 = (0, 0, 120) := by decide +kernel
theorem zo_386_9 : zT 386 9 = (0, -1, 1600) := by decide +kernel
theorem zo_49_0 : zT 49 0 = (0, 0, 12) := by decide +kernel
theorem zo_49_1 : zT 49 1 = (0, -2147483648, 2147483647) := by decide +kernel
theorem zo_49_14 : zT 49 14 = (5, 0, 3000) := by decide +kernel
theorem zo_6_0_0 {r : Nat} (h : zRp r) : zT (r) 0 = (0, 0, 12) := (by decide +kernel : ∀ r ∈ zRpL, zT (r) 0 = (0, 0, 12)) r h
theorem zo_6_0_1 {r : Nat} (h : zRp r) : zT (r) 1 = (0, -2147483648, 2147483647) := (by decide +kernel : ∀ r ∈ zRpL, zT (r) 1 = (0, -2147483648, 2147483647)) r h
theorem zo_6_0_14 {r : Nat} (h : zRp r) : zT (r) 14 = (5, 0, 3000) := (by decide +kernel : ∀ r ∈ zRpL, zT (r) 14 = (5, 0, 3000)) r h
theorem zo_7_0_1 {r : Nat} (h : zTg r) : zT (r) 1 = (0, 0, 4095) := (by decide +kernel : ∀ r ∈ zTgL, zT (r) 1 = (0, 0, 4095)) r h
theorem zo_77_0 : zT 77 0 = (0, 0, 20) := by decide +kernel
theorem zo_77_1 : zT 77 1 = (0, 0, 19) := by decide +kernel
theorem zr_0_0 {N : Nat} {M : zM} (hB : zB N M) : zvl M 0 0 = some (.ref 1) := zB_ref (kind := 8) (n := 16) (hi := 0) hB (by decide +kernel) (by decide) (by decide +kernel)
theorem zr_0_10 {N : Nat} {M : zM} (hB : zB N M) : zvl M 0 10 = some (.ref 383) := zB_ref (kind := 8) (n := 16) (hi := 0) hB (by decide +kernel) (by decide) (by decide +kernel)
theorem zr_0_12 {N : Nat} {M : zM} (hB : zB N M) : zvl M 0 12 = some (.ref 384) := zB_ref (kind := 8) (n := 16) (hi := 0) hB (by decide +kernel) (by decide) (by decide +kernel)
theorem zr_0_14 {N : Nat} {M : zM} (hB : zB N M) : zvl M 0 14 = some (.ref 385) := zB_ref (kind := 8) (n := 16) (hi := 0) hB (by decide +kernel) (by decide) (by decide +kernel)
theorem zr_0_2 {N : Nat} {M : zM} (hB : zB N M) : zvl M 0 2 = some (.ref 2) := zB_ref (kind := 8) (n := 16) (hi := 0) hB (by decide +kernel) (by decide) (by decide +kernel)
theorem zr_0_4 {N : Nat} {M : zM} (hB : zB N M) : zvl M 0 4 = some (.ref 49) := zB_ref (kind := 8) (n := 16) (hi := 0) hB (by decide +kernel) (by decide) (by decide +kernel)
theorem zr_0_5 {N : Nat} {M : zM} (hB : zB N M) : zvl M 0 5 = some (.ref 63) := zB_ref (kind := 8) (n := 16) (hi := 0) hB (by decide +kernel) (by decide) (by decide +kernel)
theorem zr_0_6 {N : Nat} {M : zM} (hB : zB N M) : zvl M 0 6 = some (.ref 77) := zB_ref (kind := 8) (n := 16) (hi := 0) hB (by decide +kernel) (by decide) (by decide +kernel)
theorem zr_0_7 {N : Nat} {M : zM} (hB : zB N M) : zvl M 0 7 = some (.ref 359) := zB_ref (kind := 8) (n := 16) (hi := 0) hB (by decide +kernel) (by decide) (by decide +kernel)
theorem zr_0_8 {N : Nat} {M : zM} (hB : zB N M) : zvl M 0 8 = some (.ref 362) := zB_ref (kind := 8) (n := 16) (hi := 0) hB (by decide +kernel) (by decide) (by decide +kernel)
theorem zr_0_9 {N : Nat} {M : zM} (hB : zB N M) : zvl M 0 9 = some (.ref 364) := zB_ref (kind := 8) (n := 16) (hi := 0) hB (by decide +kernel) (by decide) (by decide +kernel)
theorem zr_1_0_10 {r N : Nat} {M : zM} (h : zDm r) (hB : zB N M) : zvl M (r) 10 = some (.ref (r + 8)) := zB_ref (hi := 0) hB ((by decide +kernel : ∀ r ∈ zDmL, zS0[r]? = some (1, 16)) r h) (by decide) ((by decide +kernel : ∀ r ∈ zDmL, zT (r) 10 = (2, ((r + 8 : Nat) : Int), 0)) r h)
theorem zr_1_0_11 {r N : Nat} {M : zM} (h : zDm r) (hB : zB N M) : zvl M (r) 11 = some (.ref (r + 9)) := zB_ref (hi := 0) hB ((by decide +kernel : ∀ r ∈ zDmL, zS0[r]? = some (1, 16)) r h) (by decide) ((by decide +kernel : ∀ r ∈ zDmL, zT (r) 11 = (2, ((r + 9 : Nat) : Int), 0)) r h)
theorem zr_1_0_12 {r N : Nat} {M : zM} (h : zDm r) (hB : zB N M) : zvl M (r) 12 = some (.ref (r + 10)) := zB_ref (hi := 0) hB ((by decide +kernel : ∀ r ∈ zDmL, zS0[r]? = some (1, 16)) r h) (by decide) ((by decide +kernel : ∀ r ∈ zDmL, zT (r) 12 = (2, ((r + 10 : Nat) : Int), 0)) r h)
theorem zr_1_0_13 {r N : Nat} {M : zM} (h : zDm r) (hB : zB N M) : zvl M (r) 13 = some (.ref (r + 11)) := zB_ref (hi := 0) hB ((by decide +kernel : ∀ r ∈ zDmL, zS0[r]? = some (1, 16)) r h) (by decide) ((by decide +kernel : ∀ r ∈ zDmL, zT (r) 13 = (2, ((r + 11 : Nat) : Int), 0)) r h)
theorem zr_1_0_14 {r N : Nat} {M : zM} (h : zDm r) (hB : zB N M) : zvl M (r) 14 = some (.ref (r + 12)) := zB_ref (hi := 0) hB ((by decide +kernel : ∀ r ∈ zDmL, zS0[r]? = some (1, 16)) r h) (by decide) ((by decide +kernel : ∀ r ∈ zDmL, zT (r) 14 = (2, ((r + 12 : Nat) : Int), 0)) r h)
theorem zr_1_0_15 {r N : Nat} {M : zM} (h : zDm r) (hB : zB N M) : zvl M (r) 15 = some (.ref (r + 13)) := zB_ref (hi := 0) hB ((by decide +kernel : ∀ r ∈ zDmL, zS0[r]? = some (1, 16)) r h) (by decide) ((by decide +kernel : ∀ r ∈ zDmL, zT (r) 15 = (2, ((r + 13 : Nat) : Int), 0)) r h)
theorem zr_1_0_3 {r N : Nat} {M : zM} (h : zDm r) (hB : zB N M) : zvl M (r) 3 = some (.ref (r + 1)) := zB_ref (hi := 0) hB ((by decide +kernel : ∀ r ∈ zDmL, zS0[r]? = some (1, 16)) r h) (by decide) ((by decide +kernel : ∀ r ∈ zDmL, zT (r) 3 = (2, ((r + 1 : Nat) : Int), 0)) r h)
theorem zr_1_0_4 {r N : Nat} {M : zM} (h : zDm r) (hB : zB N M) : zvl M (r) 4 = some (.ref (r + 2)) := zB_ref (hi := 0) hB ((by decide +kernel : ∀ r ∈ zDmL, zS0[r]? = some (1, 16)) r h) (by decide) ((by decide +kernel : ∀ r ∈ zDmL, zT (r) 4 = (2, ((r + 2 : Nat) : Int), 0)) r h)
theorem zr_1_0_5 {r N : Nat} {M : zM} (h : zDm r) (hB : zB N M) : zvl M (r) 5 = some (.ref (r + 3)) := zB_ref (hi := 0) hB ((by decide +kernel : ∀ r ∈ zDmL, zS0[r]? = some (1, 16)) r h) (by decide) ((by decide +kernel : ∀ r ∈ zDmL, zT (r) 5 = (2, ((r + 3 : Nat) : Int), 0)) r h)
theorem zr_1_0_6 {r N : Nat} {M : zM} (h : zDm r) (hB : zB N M) : zvl M (r) 6 = some (.ref (r + 4)) := zB_ref (hi := 0) hB ((by decide +kernel : ∀ r ∈ zDmL, zS0[r]? = some (1, 16)) r h) (by decide) ((by decide +kernel : ∀ r ∈ zDmL, zT (r) 6 = (2, ((r + 4 : Nat) : Int), 0)) r h)
theorem zr_1_0_7 {r N : Nat} {M : zM} (h : zDm r) (hB : zB N M) : zvl M (r) 7 = some (.ref (r + 5)) := zB_ref (hi := 0) hB ((by decide +kernel : ∀ r ∈ zDmL, zS0[r]? = some (1, 16)) r h) (by decide) ((by decide +kernel : ∀ r ∈ zDmL, zT (r) 7 = (2, ((r + 5 : Nat) : Int), 0)) r h)
theorem zr_1_0_8 {r N : Nat} {M : zM} (h : zDm r) (hB : zB N M) : zvl M (r) 8 = some (.ref (r + 6)) := zB_ref (hi := 0) hB ((by decide +kernel : ∀ r ∈ zDmL, zS0[r]? = some (1, 16)) r h) (by decide) ((by decide +kernel : ∀ r ∈ zDmL, zT (r) 8 = (2, ((r + 6 : Nat) : Int), 0)) r h)
theorem zr_1_0_9 {r N : Nat} {M : zM} (h : zDm r) (hB : zB N M) : zvl M (r) 9 = some (.ref (r + 7)) := zB_ref (hi := 0) hB ((by decide +kernel : ∀ r ∈ zDmL, zS0[r]? = some (1, 16)) r h) (by decide) ((by decide +kernel : ∀ r ∈ zDmL, zT (r) 9 = (2, ((r + 7 : Nat) : Int), 0)) r h)
theorem zr_1_13_8 {r N : Nat} {M : zM} (h : zDm r) (hB : zB N M) : zvl M (r + 13) 8 = some (.ref (r + 20)) := zB_ref (hi := 0) hB ((by decide +kernel : ∀ r ∈ zDmL, zS0[r + 13]? = some (2, 9)) r h) (by decide) ((by decide +kernel : ∀ r ∈ zDmL, zT (r + 13) 8 = (2, ((r + 20 : Nat) : Int), 0)) r h)
theorem zr_2_0_2 {r N : Nat} {M : zM} (h : zLw r) (hB : zB N M) : zvl M (r) 2 = some (.ref (r + 1)) := zB_ref (hi := 0) hB ((by decide +kernel : ∀ r ∈ zLwL, zS0[r]? = some (2, 9)) r h) (by decide) ((by decide +kernel : ∀ r ∈ zLwL, zT (r) 2 = (2, ((r + 1 : Nat) : Int), 0)) r h)
theorem zr_2_0_3 {r N : Nat} {M : zM} (h : zLw r) (hB : zB N M) : zvl M (r) 3 = some (.ref (r + 2)) := zB_ref (hi := 0) hB ((by decide +kernel : ∀ r ∈ zLwL, zS0[r]? = some (2, 9)) r h) (by decide) ((by decide +kernel : ∀ r ∈ zLwL, zT (r) 3 = (2, ((r + 2 : Nat) : Int), 0)) r h)
theorem zr_2_0_4 {r N : Nat} {M : zM} (h : zLw r) (hB : zB N M) : zvl M (r) 4 = some (.ref (r + 3)) := zB_ref (hi := 0) hB ((by decide +kernel : ∀ r ∈ zLwL, zS0[r]? = some (2, 9)) r h) (by decide) ((by decide +kernel : ∀ r ∈ zLwL, zT (r) 4 = (2, ((r + 3 : Nat) : Int), 0)) r h)
theorem zr_2_0_5 {r N : Nat} {M : zM} (h : zLw r) (hB : zB N M) : zvl M (r) 5 = some (.ref (r + 4)) := zB_ref (hi := 0) hB ((by decide +kernel : ∀ r ∈ zLwL, zS0[r]? = some (2, 9)) r h) (by decide) ((by decide +kernel : ∀ r ∈ zLwL, zT (r) 5 = (2, ((r + 4 : Nat) : Int), 0)) r h)
theorem zr_2_0_6 {r N : Nat} {M : zM} (h : zLw r) (hB : zB N M) : zvl M (r) 6 = some (.ref (r + 5)) := zB_ref (hi := 0) hB ((by decide +kernel : ∀ r ∈ zLwL, zS0[r]? = some (2, 9)) r h) (by decide) ((by decide +kernel : ∀ r ∈ zLwL, zT (r) 6 = (2, ((r + 5 : Nat) : Int), 0)) r h)
theorem zr_2_0_7 {r N : Nat} {M : zM} (h : zLw r) (hB : zB N M) : zvl M (r) 7 = some (.ref (r + 6)) := zB_ref (hi := 0) hB ((by decide +kernel : ∀ r ∈ zLwL, zS0[r]? = some (2, 9)) r h) (by decide) ((by decide +kernel : ∀ r ∈ zLwL, zT (r) 7 = (2, ((r + 6 : Nat) : Int), 0)) r h)
theorem zr_2_0_8 {r N : Nat} {M : zM} (h : zLw r) (hB : zB N M) : zvl M (r) 8 = some (.ref (r + 7)) := zB_ref (hi := 0) hB ((by decide +kernel : ∀ r ∈ zLwL, zS0[r]? = some (2, 9)) r h) (by decide) ((by decide +kernel : ∀ r ∈ zLwL, zT (r) 8 = (2, ((r + 7 : Nat) : Int), 0)) r h)
theorem zr_2_2 {N : Nat} {M : zM} (hB : zB N M) : zvl M 2 2 = some (.ref 3) := zB_ref (kind := 5) (n := 11) (hi := 0) hB (by decide +kernel) (by decide) (by decide +kernel)
theorem zr_2_3 {N : Nat} {M : zM} (hB : zB N M) : zvl M 2 3 = some (.ref 4) := zB_ref (kind := 5) (n := 11) (hi := 0) hB (by decide +kernel) (by decide) (by decide +kernel)
theorem zr_2_4 {N : Nat} {M : zM} (hB : zB N M) : zvl M 2 4 = some (.ref 5) := zB_ref (kind := 5) (n := 11) (hi := 0) hB (by decide +kernel) (by decide) (by decide +kernel)
theorem zr_2_5 {N : Nat} {M : zM} (hB : zB N M) : zvl M 2 5 = some (.ref 6) := zB_ref (kind := 5) (n := 11) (hi := 0) hB (by decide +kernel) (by decide) (by decide +kernel)
theorem zr_359_1 {N : Nat} {M : zM} (hB : zB N M) : zvl M 359 1 = some (.ref 360) := zB_ref (kind := 3) (n := 2) (hi := 0) hB (by decide +kernel) (by decide) (by decide +kernel)
theorem zr_360_0 {N : Nat} {M : zM} (hB : zB N M) : zvl M 360 0 = some (.ref 361) := zB_ref (kind := 7) (n := 2) (hi := 0) hB (by decide +kernel) (by decide) (by decide +kernel)
theorem zr_362_0 {N : Nat} {M : zM} (hB : zB N M) : zvl M 362 0 = some (.ref 363) := zB_ref (kind := 7) (n := 2) (hi := 0) hB (by decide +kernel) (by decide) (by decide +kernel)
theorem zr_364_1 {N : Nat} {M : zM} (hB : zB N M) : zvl M 364 1 = some (.ref 365) := zB_ref (kind := 4) (n := 12) (hi := 0) hB (by decide +kernel) (by decide) (by decide +kernel)
theorem zr_364_10 {N : Nat} {M : zM} (hB : zB N M) : zvl M 364 10 = some (.ref 367) := zB_ref (kind := 4) (n := 12) (hi := 0) hB (by decide +kernel) (by decide) (by decide +kernel)
theorem zr_364_11 {N : Nat} {M : zM} (hB : zB N M) : zvl M 364 11 = some (.ref 381) := zB_ref (kind := 4) (n := 12) (hi := 0) hB (by decide +kernel) (by decide) (by decide +kernel)
theorem zr_364_4 {N : Nat} {M : zM} (hB : zB N M) : zvl M 364 4 = some (.ref 366) := zB_ref (kind := 4) (n := 12) (hi := 0) hB (by decide +kernel) (by decide) (by decide +kernel)
theorem zr_367_2 {N : Nat} {M : zM} (hB : zB N M) : zvl M 367 2 = some (.ref 368) := zB_ref (kind := 6) (n := 16) (hi := 0) hB (by decide +kernel) (by decide) (by decide +kernel)
theorem zr_386_0 {N : Nat} {M : zM} (hB : zB N M) : zvl M 386 0 = some (.ref 387) := zB_ref (kind := 9) (n := 82) (hi := 0) hB (by decide +kernel) (by decide) (by decide +kernel)
theorem zr_386_13 {N : Nat} {M : zM} (hB : zB N M) : zvl M 386 13 = some (.ref 388) := zB_ref (kind := 9) (n := 82) (hi := 0) hB (by decide +kernel) (by decide) (by decide +kernel)
theorem zr_386_14 {N : Nat} {M : zM} (hB : zB N M) : zvl M 386 14 = some (.ref 389) := zB_ref (kind := 9) (n := 82) (hi := 0) hB (by decide +kernel) (by decide) (by decide +kernel)
theorem zr_386_15 {N : Nat} {M : zM} (hB : zB N M) : zvl M 386 15 = some (.ref 390) := zB_ref (kind := 9) (n := 82) (hi := 0) hB (by decide +kernel) (by decide) (by decide +kernel)
theorem zr_386_16 {N : Nat} {M : zM} (hB : zB N M) : zvl M 386 16 = some (.ref 391) := zB_ref (kind := 9) (n := 82) (hi := 0) hB (by decide +kernel) (by decide) (by decide +kernel)
theorem zr_386_17 {N : Nat} {M : zM} (hB : zB N M) : zvl M 386 17 = some (.ref 392) := zB_ref (kind := 9) (n := 82) (hi := 0) hB (by decide +kernel) (by decide) (by decide +kernel)
theorem zr_386_18 {N : Nat} {M : zM} (hB : zB N M) : zvl M 386 18 = some (.ref 393) := zB_ref (kind := 9) (n := 82) (hi := 0) hB (by decide +kernel) (by decide) (by decide +kernel)
theorem zr_386_19 {N : Nat} {M : zM} (hB : zB N M) : zvl M 386 19 = some (.ref 394) := zB_ref (kind := 9) (n := 82) (hi := 0) hB (by decide +kernel) (by decide) (by decide +kernel)
theorem zr_386_20 {N : Nat} {M : zM} (hB : zB N M) : zvl M 386 20 = some (.ref 395) := zB_ref (kind := 9) (n := 82) (hi := 0) hB (by decide +kernel) (by decide) (by decide +kernel)
theorem zr_386_21 {N : Nat} {M : zM} (hB : zB N M) : zvl M 386 21 = some (.ref 396) := zB_ref (kind := 9) (n := 82) (hi := 0) hB (by decide +kernel) (by decide) (by decide +kernel)
theorem zr_386_22 {N : Nat} {M : zM} (hB : zB N M) : zvl M 386 22 = some (.ref 397) := zB_ref (kind := 9) (n := 82) (hi := 0) hB (by decide +kernel) (by decide) (by decide +kernel)
theorem zr_386_23 {N : Nat} {M : zM} (hB : zB N M) : zvl M 386 23 = some (.ref 398) := zB_ref (kind := 9) (n := 82) (hi := 0) hB (by decide +kernel) (by decide) (by decide +kernel)
theorem zr_386_24 {N : Nat} {M : zM} (hB : zB N M) : zvl M 386 24 = some (.ref 399) := zB_ref (kind := 9) (n := 82) (hi := 0) hB (by decide +kernel) (by decide) (by decide +kernel)
theorem zr_386_25 {N : Nat} {M : zM} (hB : zB N M) : zvl M 386 25 = some (.ref 400) := zB_ref (kind := 9) (n := 82) (hi := 0) hB (by decide +kernel) (by decide) (by decide +kernel)
theorem zr_386_26 {N : Nat} {M : zM} (hB : zB N M) : zvl M 386 26 = some (.ref 401) := zB_ref (kind := 9) (n := 82) (hi := 0) hB (by decide +kernel) (by decide) (by decide +kernel)
theorem zr_386_27 {N : Nat} {M : zM} (hB : zB N M) : zvl M 386 27 = some (.ref 402) := zB_ref (kind := 9) (n := 82) (hi := 0) hB (by decide +kernel) (by decide) (by decide +kernel)
theorem zr_386_28 {N : Nat} {M : zM} (hB : zB N M) : zvl M 386 28 = some (.ref 403) := zB_ref (kind := 9) (n := 82) (hi := 0) hB (by decide +kernel) (by decide) (by decide +kernel)
theorem zr_386_29 {N : Nat} {M : zM} (hB : zB N M) : zvl M 386 29 = some (.ref 404) := zB_ref (kind := 9) (n := 82) (hi := 0) hB (by decide +kernel) (by decide) (by decide +kernel)
theorem zr_386_30 {N : Nat} {M : zM} (hB : zB N M) : zvl M 386 30 = some (.ref 405) := zB_ref (kind := 9) (n := 82) (hi := 0) hB (by decide +kernel) (by decide) (by decide +kernel)
theorem zr_386_31 {N : Nat} {M : zM} (hB : zB N M) : zvl M 386 31 = some (.ref 406) := zB_ref (kind := 9) (n := 82) (hi := 0) hB (by decide +kernel) (by decide) (by decide +kernel)
theorem zr_386_32 {N : Nat} {M : zM} (hB : zB N M) : zvl M 386 32 = some (.ref 407) := zB_ref (kind := 9) (n := 82) (hi := 0) hB (by decide +kernel) (by decide) (by decide +kernel)
theorem zr_386_33 {N : Nat} {M : zM} (hB : zB N M) : zvl M 386 33 = some (.ref 408) := zB_ref (kind := 9) (n := 82) (hi := 0) hB (by decide +kernel) (by decide) (by decide +kernel)
theorem zr_386_36 {N : Nat} {M : zM} (hB : zB N M) : zvl M 386 36 = some (.ref 409) := zB_ref (kind := 9) (n := 82) (hi := 0) hB (by decide +kernel) (by decide) (by decide +kernel)
theorem zr_386_37 {N : Nat} {M : zM} (hB : zB N M) : zvl M 386 37 = some (.ref 410) := zB_ref (kind := 9) (n := 82) (hi := 0) hB (by decide +kernel) (by decide) (by decide +kernel)
theorem zr_386_38 {N : Nat} {M : zM} (hB : zB N M) : zvl M 386 38 = some (.ref 411) := zB_ref (kind := 9) (n := 82) (hi := 0) hB (by decide +kernel) (by decide) (by decide +kernel)
theorem zr_386_39 {N : Nat} {M : zM} (hB : zB N M) : zvl M 386 39 = some (.ref 412) := zB_ref (kind := 9) (n := 82) (hi := 0) hB (by decide +kernel) (by decide) (by decide +kernel)
theorem zr_386_40 {N : Nat} {M : zM} (hB : zB N M) : zvl M 386 40 = some (.ref 413) := zB_ref (kind := 9) (n := 82) (hi := 0) hB (by decide +kernel) (by decide) (by decide +kernel)
theorem zr_386_43 {N : Nat} {M : zM} (hB : zB N M) : zvl M 386 43 = some (.ref 414) := zB_ref (kind := 9) (n := 82) (hi := 0) hB (by decide +kernel) (by decide) (by decide +kernel)
theorem zr_386_46 {N : Nat} {M : zM} (hB : zB N M) : zvl M 386 46 = some (.ref 415) := zB_ref (kind := 9) (n := 82) (hi := 0) hB (by decide +kernel) (by decide) (by decide +kernel)
theorem zr_386_47 {N : Nat} {M : zM} (hB : zB N M) : zvl M 386 47 = some (.ref 416) := zB_ref (kind := 9) (n := 82) (hi := 0) hB (by decide +kernel) (by decide) (by decide +kernel)
theorem zr_386_48 {N : Nat} {M : zM} (hB : zB N M) : zvl M 386 48 = some (.ref 417) := zB_ref (kind := 9) (n := 82) (hi := 0) hB (by decide +kernel) (by decide) (by decide +kernel)
theorem zr_386_49 {N : Nat} {M : zM} (hB : zB N M) : zvl M 386 49 = some (.ref 418) := zB_ref (kind := 9) (n := 82) (hi := 0) hB (by decide +kernel) (by decide) (by decide +kernel)
theorem zr_386_50 {N : Nat} {M : zM} (hB : zB N M) : zvl M 386 50 = some (.ref 419) := zB_ref (kind := 9) (n := 82) (hi := 0) hB (by decide +kernel) (by decide) (by decide +kernel)
theorem zr_386_51 {N : Nat} {M : zM} (hB : zB N M) : zvl M 386 51 = some (.ref 420) := zB_ref (kind := 9) (n := 82) (hi := 0) hB (by decide +kernel) (by decide) (by decide +kernel)
theorem zr_386_52 {N : Nat} {M : zM} (hB : zB N M) : zvl M 386 52 = some (.ref 421) := zB_ref (kind := 9) (n := 82) (hi := 0) hB (by decide +kernel) (by decide) (by decide +kernel)
theorem zr_386_53 {N : Nat} {M : zM} (hB : zB N M) : zvl M 386 53 = some (.ref 422) := zB_ref (kind := 9) (n := 82) (hi := 0) hB (by decide +kernel) (by decide) (by decide +kernel)
theorem zr_386_54 {N : Nat} {M : zM} (hB : zB N M) : zvl M 386 54 = some (.ref 423) := zB_ref (kind := 9) (n := 82) (hi := 0) hB (by decide +kernel) (by decide) (by decide +kernel)
theorem zr_386_55 {N : Nat} {M : zM} (hB : zB N M) : zvl M 386 55 = some (.ref 424) := zB_ref (kind := 9) (n := 82) (hi := 0) hB (by decide +kernel) (by decide) (by decide +kernel)
theorem zr_386_56 {N : Nat} {M : zM} (hB : zB N M) : zvl M 386 56 = some (.ref 425) := zB_ref (kind := 9) (n := 82) (hi := 0) hB (by decide +kernel) (by decide) (by decide +kernel)
theorem zr_386_57 {N : Nat} {M : zM} (hB : zB N M) : zvl M 386 57 = some (.ref 426) := zB_ref (kind := 9) (n := 82) (hi := 0) hB (by decide +kernel) (by decide) (by decide +kernel)
theorem zr_386_58 {N : Nat} {M : zM} (hB : zB N M) : zvl M 386 58 = some (.ref 427) := zB_ref (kind := 9) (n := 82) (hi := 0) hB (by decide +kernel) (by decide) (by decide +kernel)
theorem zr_386_59 {N : Nat} {M : zM} (hB : zB N M) : zvl M 386 59 = some (.ref 428) := zB_ref (kind := 9) (n := 82) (hi := 0) hB (by decide +kernel) (by decide) (by decide +kernel)
theorem zr_386_60 {N : Nat} {M : zM} (hB : zB N M) : zvl M 386 60 = some (.ref 429) := zB_ref (kind := 9) (n := 82) (hi := 0) hB (by decide +kernel) (by decide) (by decide +kernel)
theorem zr_386_61 {N : Nat} {M : zM} (hB : zB N M) : zvl M 386 61 = some (.ref 430) := zB_ref (kind := 9) (n := 82) (hi := 0) hB (by decide +kernel) (by decide) (by decide +kernel)
theorem zr_386_62 {N : Nat} {M : zM} (hB : zB N M) : zvl M 386 62 = some (.ref 431) := zB_ref (kind := 9) (n := 82) (hi := 0) hB (by decide +kernel) (by decide) (by decide +kernel)
theorem zr_386_63 {N : Nat} {M : zM} (hB : zB N M) : zvl M 386 63 = some (.ref 432) := zB_ref (kind := 9) (n := 82) (hi := 0) hB (by decide +kernel) (by decide) (by decide +kernel)
theorem zr_386_67 {N : Nat} {M : zM} (hB : zB N M) : zvl M 386 67 = some (.ref 433) := zB_ref (kind := 9) (n := 82) (hi := 0) hB (by decide +kernel) (by decide) (by decide +kernel)
theorem zr_386_69 {N : Nat} {M : zM} (hB : zB N M) : zvl M 386 69 = some (.ref 434) := zB_ref (kind := 9) (n := 82) (hi := 0) hB (by decide +kernel) (by decide) (by decide +kernel)
theorem zr_386_73 {N : Nat} {M : zM} (hB : zB N M) : zvl M 386 73 = some (.ref 435) := zB_ref (kind := 9) (n := 82) (hi := 0) hB (by decide +kernel) (by decide) (by decide +kernel)
theorem zr_386_76 {N : Nat} {M : zM} (hB : zB N M) : zvl M 386 76 = some (.ref 436) := zB_ref (kind := 9) (n := 82) (hi := 0) hB (by decide +kernel) (by decide) (by decide +kernel)
theorem zr_386_78 {N : Nat} {M : zM} (hB : zB N M) : zvl M 386 78 = some (.ref 437) := zB_ref (kind := 9) (n := 82) (hi := 0) hB (by decide +kernel) (by decide) (by decide +kernel)
theorem zr_386_79 {N : Nat} {M : zM} (hB : zB N M) : zvl M 386 79 = some (.ref 438) := zB_ref (kind := 9) (n := 82) (hi := 0) hB (by decide +kernel) (by decide) (by decide +kernel)
theorem zr_386_80 {N : Nat} {M : zM} (hB : zB N M) : zvl M 386 80 = some (.ref 439) := zB_ref (kind := 9) (n := 82) (hi := 0) hB (by decide +kernel) (by decide) (by decide +kernel)
theorem zr_49_10 {N : Nat} {M : zM} (hB : zB N M) : zvl M 49 10 = some (.ref 58) := zB_ref (kind := 6) (n := 16) (hi := 0) hB (by decide +kernel) (by decide) (by decide +kernel)
theorem zr_49_11 {N : Nat} {M : zM} (hB : zB N M) : zvl M 49 11 = some (.ref 59) := zB_ref (kind := 6) (n := 16) (hi := 0) hB (by decide +kernel) (by decide) (by decide +kernel)
theorem zr_49_12 {N : Nat} {M : zM} (hB : zB N M) : zvl M 49 12 = some (.ref 60) := zB_ref (kind := 6) (n := 16) (hi := 0) hB (by decide +kernel) (by decide) (by decide +kernel)
theorem zr_49_13 {N : Nat} {M : zM} (hB : zB N M) : zvl M 49 13 = some (.ref 61) := zB_ref (kind := 6) (n := 16) (hi := 0) hB (by decide +kernel) (by decide) (by decide +kernel)
theorem zr_49_2 {N : Nat} {M : zM} (hB : zB N M) : zvl M 49 2 = some (.ref 50) := zB_ref (kind := 6) (n := 16) (hi := 0) hB (by decide +kernel) (by decide) (by decide +kernel)
theorem zr_49_3 {N : Nat} {M : zM} (hB : zB N M) : zvl M 49 3 = some (.ref 51) := zB_ref (kind := 6) (n := 16) (hi := 0) hB (by decide +kernel) (by decide) (by decide +kernel)
theorem zr_49_4 {N : Nat} {M : zM} (hB : zB N M) : zvl M 49 4 = some (.ref 52) := zB_ref (kind := 6) (n := 16) (hi := 0) hB (by decide +kernel) (by decide) (by decide +kernel)
theorem zr_49_5 {N : Nat} {M : zM} (hB : zB N M) : zvl M 49 5 = some (.ref 53) := zB_ref (kind := 6) (n := 16) (hi := 0) hB (by decide +kernel) (by decide) (by decide +kernel)
theorem zr_49_6 {N : Nat} {M : zM} (hB : zB N M) : zvl M 49 6 = some (.ref 54) := zB_ref (kind := 6) (n := 16) (hi := 0) hB (by decide +kernel) (by decide) (by decide +kernel)
theorem zr_49_9 {N : Nat} {M : zM} (hB : zB N M) : zvl M 49 9 = some (.ref 57) := zB_ref (kind := 6) (n := 16) (hi := 0) hB (by decide +kernel) (by decide) (by decide +kernel)
theorem zr_6_0_10 {r N : Nat} {M : zM} (h : zRp r) (hB : zB N M) : zvl M (r) 10 = some (.ref (r + 9)) := zB_ref (hi := 0) hB ((by decide +kernel : ∀ r ∈ zRpL, zS0[r]? = some (6, 16)) r h) (by decide) ((by decide +kernel : ∀ r ∈ zRpL, zT (r) 10 = (2, ((r + 9 : Nat) : Int), 0)) r h)
theorem zr_6_0_11 {r N : Nat} {M : zM} (h : zRp r) (hB : zB N M) : zvl M (r) 11 = some (.ref (r + 10)) := zB_ref (hi := 0) hB ((by decide +kernel : ∀ r ∈ zRpL, zS0[r]? = some (6, 16)) r h) (by decide) ((by decide +kernel : ∀ r ∈ zRpL, zT (r) 11 = (2, ((r + 10 : Nat) : Int), 0)) r h)
theorem zr_6_0_12 {r N : Nat} {M : zM} (h : zRp r) (hB : zB N M) : zvl M (r) 12 = some (.ref (r + 11)) := zB_ref (hi := 0) hB ((by decide +kernel : ∀ r ∈ zRpL, zS0[r]? = some (6, 16)) r h) (by decide) ((by decide +kernel : ∀ r ∈ zRpL, zT (r) 12 = (2, ((r + 11 : Nat) : Int), 0)) r h)
theorem zr_6_0_13 {r N : Nat} {M : zM} (h : zRp r) (hB : zB N M) : zvl M (r) 13 = some (.ref (r + 12)) := zB_ref (hi := 0) hB ((by decide +kernel : ∀ r ∈ zRpL, zS0[r]? = some (6, 16)) r h) (by decide) ((by decide +kernel : ∀ r ∈ zRpL, zT (r) 13 = (2, ((r + 12 : Nat) : Int), 0)) r h)
theorem zr_6_0_15 {r N : Nat} {M : zM} (h : zRp r) (hB : zB N M) : zvl M (r) 15 = some (.ref (r + 13)) := zB_ref (hi := 0) hB ((by decide +kernel : ∀ r ∈ zRpL, zS0[r]? = some (6, 16)) r h) (by decide) ((by decide +kernel : ∀ r ∈ zRpL, zT (r) 15 = (2, ((r + 13 : Nat) : Int), 0)) r h)
theorem zr_6_0_2 {r N : Nat} {M : zM} (h : zRp r) (hB : zB N M) : zvl M (r) 2 = some (.ref (r + 1)) := zB_ref (hi := 0) hB ((by decide +kernel : ∀ r ∈ zRpL, zS0[r]? = some (6, 16)) r h) (by decide) ((by decide +kernel : ∀ r ∈ zRpL, zT (r) 2 = (2, ((r + 1 : Nat) : Int), 0)) r h)
theorem zr_6_0_3 {r N : Nat} {M : zM} (h : zRp r) (hB : zB N M) : zvl M (r) 3 = some (.ref (r + 2)) := zB_ref (hi := 0) hB ((by decide +kernel : ∀ r ∈ zRpL, zS0[r]? = some (6, 16)) r h) (by decide) ((by decide +kernel : ∀ r ∈ zRpL, zT (r) 3 = (2, ((r + 2 : Nat) : Int), 0)) r h)
theorem zr_6_0_4 {r N : Nat} {M : zM} (h : zRp r) (hB : zB N M) : zvl M (r) 4 = some (.ref (r + 3)) := zB_ref (hi := 0) hB ((by decide +kernel : ∀ r ∈ zRpL, zS0[r]? = some (6, 16)) r h) (by decide) ((by decide +kernel : ∀ r ∈ zRpL, zT (r) 4 = (2, ((r + 3 : Nat) : Int), 0)) r h)
theorem zr_6_0_5 {r N : Nat} {M : zM} (h : zRp r) (hB : zB N M) : zvl M (r) 5 = some (.ref (r + 4)) := zB_ref (hi := 0) hB ((by decide +kernel : ∀ r ∈ zRpL, zS0[r]? = some (6, 16)) r h) (by decide) ((by decide +kernel : ∀ r ∈ zRpL, zT (r) 5 = (2, ((r + 4 : Nat) : Int), 0)) r h)
theorem zr_6_0_6 {r N : Nat} {M : zM} (h : zRp r) (hB : zB N M) : zvl M (r) 6 = some (.ref (r + 5)) := zB_ref (hi := 0) hB ((by decide +kernel : ∀ r ∈ zRpL, zS0[r]? = some (6, 16)) r h) (by decide) ((by decide +kernel : ∀ r ∈ zRpL, zT (r) 6 = (2, ((r + 5 : Nat) : Int), 0)) r h)
theorem zr_6_0_7 {r N : Nat} {M : zM} (h : zRp r) (hB : zB N M) : zvl M (r) 7 = some (.ref (r + 6)) := zB_ref (hi := 0) hB ((by decide +kernel : ∀ r ∈ zRpL, zS0[r]? = some (6, 16)) r h) (by decide) ((by decide +kernel : ∀ r ∈ zRpL, zT (r) 7 = (2, ((r + 6 : Nat) : Int), 0)) r h)
theorem zr_6_0_8 {r N : Nat} {M : zM} (h : zRp r) (hB : zB N M) : zvl M (r) 8 = some (.ref (r + 7)) := zB_ref (hi := 0) hB ((by decide +kernel : ∀ r ∈ zRpL, zS0[r]? = some (6, 16)) r h) (by decide) ((by decide +kernel : ∀ r ∈ zRpL, zT (r) 8 = (2, ((r + 7 : Nat) : Int), 0)) r h)
theorem zr_6_0_9 {r N : Nat} {M : zM} (h : zRp r) (hB : zB N M) : zvl M (r) 9 = some (.ref (r + 8)) := zB_ref (hi := 0) hB ((by decide +kernel : ∀ r ∈ zRpL, zS0[r]? = some (6, 16)) r h) (by decide) ((by decide +kernel : ∀ r ∈ zRpL, zT (r) 9 = (2, ((r + 8 : Nat) : Int), 0)) r h)
theorem zr_7_0_0 {r N : Nat} {M : zM} (h : zTg r) (hB : zB N M) : zvl M (r) 0 = some (.ref (r + 1)) := zB_ref (hi := 0) hB ((by decide +kernel : ∀ r ∈ zTgL, zS0[r]? = some (7, 2)) r h) (by decide) ((by decide +kernel : ∀ r ∈ zTgL, zT (r) 0 = (2, ((r + 1 : Nat) : Int), 0)) r h)
theorem zr_77_2 {N : Nat} {M : zM} (hB : zB N M) : zvl M 77 2 = some (.ref 78) := zB_ref (kind := 0) (n := 3) (hi := 0) hB (by decide +kernel) (by decide) (by decide +kernel)
theorem zs_0 : zS0[0]? = some (8, 16) := by decide +kernel
theorem zs_1 : zS0[1]? = some (10, 1600) := by decide +kernel
theorem zs_1_0 {r : Nat} (h : zDm r) : zS0[r]? = some (1, 16) := (by decide +kernel : ∀ r ∈ zDmL, zS0[r]? = some (1, 16)) r h
theorem zs_1_1 {r : Nat} (h : zDm r) : zS0[r + 1]? = some (10, 12) := (by decide +kernel : ∀ r ∈ zDmL, zS0[r + 1]? = some (10, 12)) r h
theorem zs_1_10 {r : Nat} (h : zDm r) : zS0[r + 10]? = some (10, 6) := (by decide +kernel : ∀ r ∈ zDmL, zS0[r + 10]? = some (10, 6)) r h
theorem zs_1_11 {r : Nat} (h : zDm r) : zS0[r + 11]? = some (10, 6) := (by decide +kernel : ∀ r ∈ zDmL, zS0[r + 11]? = some (10, 6)) r h
theorem zs_1_12 {r : Nat} (h : zDm r) : zS0[r + 12]? = some (10, 11) := (by decide +kernel : ∀ r ∈ zDmL, zS0[r + 12]? = some (10, 11)) r h
theorem zs_1_13 {r : Nat} (h : zDm r) : zS0[r + 13]? = some (2, 9) := (by decide +kernel : ∀ r ∈ zDmL, zS0[r + 13]? = some (2, 9)) r h
theorem zs_1_2 {r : Nat} (h : zDm r) : zS0[r + 2]? = some (10, 12) := (by decide +kernel : ∀ r ∈ zDmL, zS0[r + 2]? = some (10, 12)) r h
theorem zs_1_20 {r : Nat} (h : zDm r) : zS0[r + 20]? = some (10, 7) := (by decide +kernel : ∀ r ∈ zDmL, zS0[r + 20]? = some (10, 7)) r h
theorem zs_1_3 {r : Nat} (h : zDm r) : zS0[r + 3]? = some (10, 12) := (by decide +kernel : ∀ r ∈ zDmL, zS0[r + 3]? = some (10, 12)) r h
theorem zs_1_4 {r : Nat} (h : zDm r) : zS0[r + 4]? = some (10, 12) := (by decide +kernel : ∀ r ∈ zDmL, zS0[r + 4]? = some (10, 12)) r h
theorem zs_1_5 {r : Nat} (h : zDm r) : zS0[r + 5]? = some (10, 12) := (by decide +kernel : ∀ r ∈ zDmL, zS0[r + 5]? = some (10, 12)) r h
theorem zs_1_6 {r : Nat} (h : zDm r) : zS0[r + 6]? = some (10, 12) := (by decide +kernel : ∀ r ∈ zDmL, zS0[r + 6]? = some (10, 12)) r h
theorem zs_1_7 {r : Nat} (h : zDm r) : zS0[r + 7]? = some (10, 6) := (by decide +kernel : ∀ r ∈ zDmL, zS0[r + 7]? = some (10, 6)) r h
theorem zs_1_8 {r : Nat} (h : zDm r) : zS0[r + 8]? = some (10, 6) := (by decide +kernel : ∀ r ∈ zDmL, zS0[r + 8]? = some (10, 6)) r h
theorem zs_1_9 {r : Nat} (h : zDm r) : zS0[r + 9]? = some (10, 6) := (by decide +kernel : ∀ r ∈ zDmL, zS0[r + 9]? = some (10, 6)) r h
theorem zs_2 : zS0[2]? = some (5, 11) := by decide +kernel
theorem zs_2_0 {r : Nat} (h : zLw r) : zS0[r]? = some (2, 9) := (by decide +kernel : ∀ r ∈ zLwL, zS0[r]? = some (2, 9)) r h
theorem zs_2_1 {r : Nat} (h : zLw r) : zS0[r + 1]? = some (10, 1600) := (by decide +kernel : ∀ r ∈ zLwL, zS0[r + 1]? = some (10, 1600)) r h
theorem zs_2_2 {r : Nat} (h : zLw r) : zS0[r + 2]? = some (12, 8) := (by decide +kernel : ∀ r ∈ zLwL, zS0[r + 2]? = some (12, 8)) r h
theorem zs_2_3 {r : Nat} (h : zLw r) : zS0[r + 3]? = some (10, 8) := (by decide +kernel : ∀ r ∈ zLwL, zS0[r + 3]? = some (10, 8)) r h
theorem zs_2_4 {r : Nat} (h : zLw r) : zS0[r + 4]? = some (10, 8) := (by decide +kernel : ∀ r ∈ zLwL, zS0[r + 4]? = some (10, 8)) r h
theorem zs_2_5 {r : Nat} (h : zLw r) : zS0[r + 5]? = some (10, 8) := (by decide +kernel : ∀ r ∈ zLwL, zS0[r + 5]? = some (10, 8)) r h
theorem zs_2_6 {r : Nat} (h : zLw r) : zS0[r + 6]? = some (10, 64) := (by decide +kernel : ∀ r ∈ zLwL, zS0[r + 6]? = some (10, 64)) r h
theorem zs_2_7 {r : Nat} (h : zLw r) : zS0[r + 7]? = some (10, 7) := (by decide +kernel : ∀ r ∈ zLwL, zS0[r + 7]? = some (10, 7)) r h
theorem zs_3 : zS0[3]? = some (10, 27) := by decide +kernel
theorem zs_359 : zS0[359]? = some (3, 2) := by decide +kernel
theorem zs_360 : zS0[360]? = some (7, 2) := by decide +kernel
theorem zs_361 : zS0[361]? = some (10, 12) := by decide +kernel
theorem zs_362 : zS0[362]? = some (7, 2) := by decide +kernel
theorem zs_363 : zS0[363]? = some (10, 12) := by decide +kernel
theorem zs_364 : zS0[364]? = some (4, 12) := by decide +kernel
theorem zs_365 : zS0[365]? = some (10, 12) := by decide +kernel
theorem zs_366 : zS0[366]? = some (10, 12) := by decide +kernel
theorem zs_367 : zS0[367]? = some (6, 16) := by decide +kernel
theorem zs_368 : zS0[368]? = some (10, 12) := by decide +kernel
theorem zs_381 : zS0[381]? = some (7, 2) := by decide +kernel
theorem zs_383 : zS0[383]? = some (10, 12) := by decide +kernel
theorem zs_384 : zS0[384]? = some (10, 109) := by decide +kernel
theorem zs_385 : zS0[385]? = some (10, 6) := by decide +kernel
theorem zs_386 : zS0[386]? = some (9, 82) := by decide +kernel
theorem zs_387 : zS0[387]? = some (10, 1800) := by decide +kernel
theorem zs_388 : zS0[388]? = some (10, 2) := by decide +kernel
theorem zs_389 : zS0[389]? = some (11, 24) := by decide +kernel
theorem zs_390 : zS0[390]? = some (10, 24) := by decide +kernel
theorem zs_391 : zS0[391]? = some (10, 24) := by decide +kernel
theorem zs_392 : zS0[392]? = some (10, 24) := by decide +kernel
theorem zs_393 : zS0[393]? = some (10, 24) := by decide +kernel
theorem zs_394 : zS0[394]? = some (10, 24) := by decide +kernel
theorem zs_395 : zS0[395]? = some (10, 22) := by decide +kernel
theorem zs_396 : zS0[396]? = some (10, 2) := by decide +kernel
theorem zs_397 : zS0[397]? = some (11, 12) := by decide +kernel
theorem zs_398 : zS0[398]? = some (10, 12) := by decide +kernel
theorem zs_399 : zS0[399]? = some (10, 12) := by decide +kernel
theorem zs_4 : zS0[4]? = some (10, 1601) := by decide +kernel
theorem zs_400 : zS0[400]? = some (10, 12) := by decide +kernel
theorem zs_401 : zS0[401]? = some (10, 12) := by decide +kernel
theorem zs_402 : zS0[402]? = some (10, 2) := by decide +kernel
theorem zs_403 : zS0[403]? = some (10, 16) := by decide +kernel
theorem zs_404 : zS0[404]? = some (10, 16) := by decide +kernel
theorem zs_405 : zS0[405]? = some (10, 16) := by decide +kernel
theorem zs_406 : zS0[406]? = some (10, 16) := by decide +kernel
theorem zs_407 : zS0[407]? = some (10, 3200) := by decide +kernel
theorem zs_408 : zS0[408]? = some (10, 3200) := by decide +kernel
theorem zs_409 : zS0[409]? = some (10, 20) := by decide +kernel
theorem zs_410 : zS0[410]? = some (10, 20) := by decide +kernel
theorem zs_411 : zS0[411]? = some (12, 20) := by decide +kernel
theorem zs_412 : zS0[412]? = some (10, 20) := by decide +kernel
theorem zs_413 : zS0[413]? = some (10, 20) := by decide +kernel
theorem zs_414 : zS0[414]? = some (10, 500) := by decide +kernel
theorem zs_415 : zS0[415]? = some (10, 6) := by decide +kernel
theorem zs_416 : zS0[416]? = some (11, 1650) := by decide +kernel
theorem zs_417 : zS0[417]? = some (10, 10) := by decide +kernel
theorem zs_418 : zS0[418]? = some (10, 22) := by decide +kernel
theorem zs_419 : zS0[419]? = some (10, 264) := by decide +kernel
theorem zs_420 : zS0[420]? = some (10, 264) := by decide +kernel
theorem zs_421 : zS0[421]? = some (10, 264) := by decide +kernel
theorem zs_422 : zS0[422]? = some (10, 264) := by decide +kernel
theorem zs_423 : zS0[423]? = some (10, 264) := by decide +kernel
theorem zs_424 : zS0[424]? = some (10, 264) := by decide +kernel
theorem zs_425 : zS0[425]? = some (10, 264) := by decide +kernel
theorem zs_426 : zS0[426]? = some (10, 264) := by decide +kernel
theorem zs_427 : zS0[427]? = some (10, 264) := by decide +kernel
theorem zs_428 : zS0[428]? = some (10, 264) := by decide +kernel
theorem zs_429 : zS0[429]? = some (10, 242) := by decide +kernel
theorem zs_430 : zS0[430]? = some (10, 242) := by decide +kernel
theorem zs_431 : zS0[431]? = some (10, 22) := by decide +kernel
theorem zs_432 : zS0[432]? = some (10, 22000) := by decide +kernel
theorem zs_433 : zS0[433]? = some (10, 12) := by decide +kernel
theorem zs_434 : zS0[434]? = some (10, 12) := by decide +kernel
theorem zs_435 : zS0[435]? = some (10, 12) := by decide +kernel
theorem zs_436 : zS0[436]? = some (10, 12) := by decide +kernel
theorem zs_437 : zS0[437]? = some (10, 4) := by decide +kernel
theorem zs_438 : zS0[438]? = some (10, 4) := by decide +kernel
theorem zs_439 : zS0[439]? = some (10, 120) := by decide +kernel
theorem zs_49 : zS0[49]? = some (6, 16) := by decide +kernel
theorem zs_5 : zS0[5]? = some (10, 1601) := by decide +kernel
theorem zs_50 : zS0[50]? = some (10, 12) := by decide +kernel
theorem zs_51 : zS0[51]? = some (12, 12) := by decide +kernel
theorem zs_52 : zS0[52]? = some (10, 12) := by decide +kernel
theorem zs_53 : zS0[53]? = some (10, 12) := by decide +kernel
theorem zs_54 : zS0[54]? = some (10, 12) := by decide +kernel
theorem zs_57 : zS0[57]? = some (10, 12) := by decide +kernel
theorem zs_58 : zS0[58]? = some (10, 12) := by decide +kernel
theorem zs_59 : zS0[59]? = some (10, 12) := by decide +kernel
theorem zs_6 : zS0[6]? = some (10, 1601) := by decide +kernel
theorem zs_6_0 {r : Nat} (h : zRp r) : zS0[r]? = some (6, 16) := (by decide +kernel : ∀ r ∈ zRpL, zS0[r]? = some (6, 16)) r h
theorem zs_6_1 {r : Nat} (h : zRp r) : zS0[r + 1]? = some (10, 12) := (by decide +kernel : ∀ r ∈ zRpL, zS0[r + 1]? = some (10, 12)) r h
theorem zs_6_10 {r : Nat} (h : zRp r) : zS0[r + 10]? = some (10, 12) := (by decide +kernel : ∀ r ∈ zRpL, zS0[r + 10]? = some (10, 12)) r h
theorem zs_6_11 {r : Nat} (h : zRp r) : zS0[r + 11]? = some (12, 11) := (by decide +kernel : ∀ r ∈ zRpL, zS0[r + 11]? = some (12, 11)) r h
theorem zs_6_12 {r : Nat} (h : zRp r) : zS0[r + 12]? = some (10, 11) := (by decide +kernel : ∀ r ∈ zRpL, zS0[r + 12]? = some (10, 11)) r h
theorem zs_6_13 {r : Nat} (h : zRp r) : zS0[r + 13]? = some (10, 200) := (by decide +kernel : ∀ r ∈ zRpL, zS0[r + 13]? = some (10, 200)) r h
theorem zs_6_2 {r : Nat} (h : zRp r) : zS0[r + 2]? = some (12, 12) := (by decide +kernel : ∀ r ∈ zRpL, zS0[r + 2]? = some (12, 12)) r h
theorem zs_6_3 {r : Nat} (h : zRp r) : zS0[r + 3]? = some (10, 12) := (by decide +kernel : ∀ r ∈ zRpL, zS0[r + 3]? = some (10, 12)) r h
theorem zs_6_4 {r : Nat} (h : zRp r) : zS0[r + 4]? = some (10, 12) := (by decide +kernel : ∀ r ∈ zRpL, zS0[r + 4]? = some (10, 12)) r h
theorem zs_6_5 {r : Nat} (h : zRp r) : zS0[r + 5]? = some (10, 12) := (by decide +kernel : ∀ r ∈ zRpL, zS0[r + 5]? = some (10, 12)) r h
theorem zs_6_6 {r : Nat} (h : zRp r) : zS0[r + 6]? = some (10, 12) := (by decide +kernel : ∀ r ∈ zRpL, zS0[r + 6]? = some (10, 12)) r h
theorem zs_6_7 {r : Nat} (h : zRp r) : zS0[r + 7]? = some (10, 12) := (by decide +kernel : ∀ r ∈ zRpL, zS0[r + 7]? = some (10, 12)) r h
theorem zs_6_8 {r : Nat} (h : zRp r) : zS0[r + 8]? = some (10, 12) := (by decide +kernel : ∀ r ∈ zRpL, zS0[r + 8]? = some (10, 12)) r h
theorem zs_6_9 {r : Nat} (h : zRp r) : zS0[r + 9]? = some (10, 12) := (by decide +kernel : ∀ r ∈ zRpL, zS0[r + 9]? = some (10, 12)) r h
theorem zs_60 : zS0[60]? = some (12, 11) := by decide +kernel
theorem zs_61 : zS0[61]? = some (10, 11) := by decide +kernel
theorem zs_63 : zS0[63]? = some (6, 16) := by decide +kernel
theorem zs_7_0 {r : Nat} (h : zTg r) : zS0[r]? = some (7, 2) := (by decide +kernel : ∀ r ∈ zTgL, zS0[r]? = some (7, 2)) r h
theorem zs_7_1 {r : Nat} (h : zTg r) : zS0[r + 1]? = some (10, 12) := (by decide +kernel : ∀ r ∈ zTgL, zS0[r + 1]? = some (10, 12)) r h
theorem zs_77 : zS0[77]? = some (0, 3) := by decide +kernel
theorem zu_1 : ∀ k, zT 1 k = (0, 0, 255) := zT_u (by decide +kernel)
theorem zu_1_1 {r : Nat} (h : zDm r) : ∀ k, zT (r + 1) k = (0, -2147483648, 2147483647) := zT_u ((by decide +kernel : ∀ r ∈ zDmL, zTT[r + 1]? = some (true, [(0, -2147483648, 2147483647)])) r h)
theorem zu_1_10 {r : Nat} (h : zDm r) : ∀ k, zT (r + 10) k = (0, -2147483648, 2147483647) := zT_u ((by decide +kernel : ∀ r ∈ zDmL, zTT[r + 10]? = some (true, [(0, -2147483648, 2147483647)])) r h)
theorem zu_1_11 {r : Nat} (h : zDm r) : ∀ k, zT (r + 11) k = (0, -2147483648, 2147483647) := zT_u ((by decide +kernel : ∀ r ∈ zDmL, zTT[r + 11]? = some (true, [(0, -2147483648, 2147483647)])) r h)
theorem zu_1_12 {r : Nat} (h : zDm r) : ∀ k, zT (r + 12) k = (0, 0, 99) := zT_u ((by decide +kernel : ∀ r ∈ zDmL, zTT[r + 12]? = some (true, [(0, 0, 99)])) r h)
theorem zu_1_2 {r : Nat} (h : zDm r) : ∀ k, zT (r + 2) k = (0, -2147483648, 2147483647) := zT_u ((by decide +kernel : ∀ r ∈ zDmL, zTT[r + 2]? = some (true, [(0, -2147483648, 2147483647)])) r h)
theorem zu_1_20 {r : Nat} (h : zDm r) : ∀ k, zT (r + 20) k = (0, -2147483648, 2147483647) := zT_u ((by decide +kernel : ∀ r ∈ zDmL, zTT[r + 20]? = some (true, [(0, -2147483648, 2147483647)])) r h)
theorem zu_1_3 {r : Nat} (h : zDm r) : ∀ k, zT (r + 3) k = (0, -2147483648, 2147483647) := zT_u ((by decide +kernel : ∀ r ∈ zDmL, zTT[r + 3]? = some (true, [(0, -2147483648, 2147483647)])) r h)
theorem zu_1_4 {r : Nat} (h : zDm r) : ∀ k, zT (r + 4) k = (0, -2147483648, 2147483647) := zT_u ((by decide +kernel : ∀ r ∈ zDmL, zTT[r + 4]? = some (true, [(0, -2147483648, 2147483647)])) r h)
theorem zu_1_5 {r : Nat} (h : zDm r) : ∀ k, zT (r + 5) k = (0, -2147483648, 2147483647) := zT_u ((by decide +kernel : ∀ r ∈ zDmL, zTT[r + 5]? = some (true, [(0, -2147483648, 2147483647)])) r h)
theorem zu_1_6 {r : Nat} (h : zDm r) : ∀ k, zT (r + 6) k = (0, 0, 3) := zT_u ((by decide +kernel : ∀ r ∈ zDmL, zTT[r + 6]? = some (true, [(0, 0, 3)])) r h)
theorem zu_1_7 {r : Nat} (h : zDm r) : ∀ k, zT (r + 7) k = (0, -2147483648, 2147483647) := zT_u ((by decide +kernel : ∀ r ∈ zDmL, zTT[r + 7]? = some (true, [(0, -2147483648, 2147483647)])) r h)
theorem zu_1_8 {r : Nat} (h : zDm r) : ∀ k, zT (r + 8) k = (0, -2147483648, 2147483647) := zT_u ((by decide +kernel : ∀ r ∈ zDmL, zTT[r + 8]? = some (true, [(0, -2147483648, 2147483647)])) r h)
theorem zu_1_9 {r : Nat} (h : zDm r) : ∀ k, zT (r + 9) k = (0, -2147483648, 2147483647) := zT_u ((by decide +kernel : ∀ r ∈ zDmL, zTT[r + 9]? = some (true, [(0, -2147483648, 2147483647)])) r h)
theorem zu_2_1 {r : Nat} (h : zLw r) : ∀ k, zT (r + 1) k = (0, -2147483648, 2147483647) := zT_u ((by decide +kernel : ∀ r ∈ zLwL, zTT[r + 1]? = some (true, [(0, -2147483648, 2147483647)])) r h)
theorem zu_2_2 {r : Nat} (h : zLw r) : ∀ k, zT (r + 2) k = (0, 0, 1) := zT_u ((by decide +kernel : ∀ r ∈ zLwL, zTT[r + 2]? = some (true, [(0, 0, 1)])) r h)
theorem zu_2_3 {r : Nat} (h : zLw r) : ∀ k, zT (r + 3) k = (0, 0, 1600) := zT_u ((by decide +kernel : ∀ r ∈ zLwL, zTT[r + 3]? = some (true, [(0, 0, 1600)])) r h)
theorem zu_2_4 {r : Nat} (h : zLw r) : ∀ k, zT (r + 4) k = (0, 0, 1600) := zT_u ((by decide +kernel : ∀ r ∈ zLwL, zTT[r + 4]? = some (true, [(0, 0, 1600)])) r h)
theorem zu_2_5 {r : Nat} (h : zLw r) : ∀ k, zT (r + 5) k = (0, 0, 1600) := zT_u ((by decide +kernel : ∀ r ∈ zLwL, zTT[r + 5]? = some (true, [(0, 0, 1600)])) r h)
theorem zu_2_6 {r : Nat} (h : zLw r) : ∀ k, zT (r + 6) k = (0, -2147483648, 2147483647) := zT_u ((by decide +kernel : ∀ r ∈ zLwL, zTT[r + 6]? = some (true, [(0, -2147483648, 2147483647)])) r h)
theorem zu_2_7 {r : Nat} (h : zLw r) : ∀ k, zT (r + 7) k = (0, -2147483648, 2147483647) := zT_u ((by decide +kernel : ∀ r ∈ zLwL, zTT[r + 7]? = some (true, [(0, -2147483648, 2147483647)])) r h)
theorem zu_3 : ∀ k, zT 3 k = (0, 591, 679716023) := zT_u (by decide +kernel)
theorem zu_361 : ∀ k, zT 361 k = (0, 0, 2147483647) := zT_u (by decide +kernel)
theorem zu_363 : ∀ k, zT 363 k = (0, 0, 2147483647) := zT_u (by decide +kernel)
theorem zu_365 : ∀ k, zT 365 k = (0, 0, 11) := zT_u (by decide +kernel)
theorem zu_366 : ∀ k, zT 366 k = (0, 0, 11) := zT_u (by decide +kernel)
theorem zu_368 : ∀ k, zT 368 k = (0, 0, 11) := zT_u (by decide +kernel)
theorem zu_383 : ∀ k, zT 383 k = (0, 0, 65535) := zT_u (by decide +kernel)
theorem zu_384 : ∀ k, zT 384 k = (0, -2147483648, 2147483647) := zT_u (by decide +kernel)
theorem zu_385 : ∀ k, zT 385 k = (0, -2147483648, 2147483647) := zT_u (by decide +kernel)
theorem zu_387 : ∀ k, zT 387 k = (0, 0, 255) := zT_u (by decide +kernel)
theorem zu_388 : ∀ k, zT 388 k = (0, 0, 12) := zT_u (by decide +kernel)
theorem zu_389 : ∀ k, zT 389 k = (1, -9223372036854775808, 9223372036854775807) := zT_u (by decide +kernel)
theorem zu_390 : ∀ k, zT 390 k = (0, -2147483648, 2147483647) := zT_u (by decide +kernel)
theorem zu_391 : ∀ k, zT 391 k = (0, -2147483648, 2147483647) := zT_u (by decide +kernel)
theorem zu_392 : ∀ k, zT 392 k = (0, -2147483648, 2147483647) := zT_u (by decide +kernel)
theorem zu_393 : ∀ k, zT 393 k = (0, -2147483648, 2147483647) := zT_u (by decide +kernel)
theorem zu_394 : ∀ k, zT 394 k = (0, 0, 3) := zT_u (by decide +kernel)
theorem zu_395 : ∀ k, zT 395 k = (0, -2147483648, 2147483647) := zT_u (by decide +kernel)
theorem zu_396 : ∀ k, zT 396 k = (0, 0, 6) := zT_u (by decide +kernel)
theorem zu_397 : ∀ k, zT 397 k = (1, -9223372036854775808, 9223372036854775807) := zT_u (by decide +kernel)
theorem zu_398 : ∀ k, zT 398 k = (0, -2147483648, 2147483647) := zT_u (by decide +kernel)
theorem zu_399 : ∀ k, zT 399 k = (0, -2147483648, 2147483647) := zT_u (by decide +kernel)
theorem zu_4 : ∀ k, zT 4 k = (0, 0, 5) := zT_u (by decide +kernel)
theorem zu_400 : ∀ k, zT 400 k = (0, -2147483648, 2147483647) := zT_u (by decide +kernel)
theorem zu_401 : ∀ k, zT 401 k = (0, -2147483648, 2147483647) := zT_u (by decide +kernel)
theorem zu_402 : ∀ k, zT 402 k = (0, 0, 8) := zT_u (by decide +kernel)
theorem zu_403 : ∀ k, zT 403 k = (0, 0, 1) := zT_u (by decide +kernel)
theorem zu_404 : ∀ k, zT 404 k = (0, 0, 1600) := zT_u (by decide +kernel)
theorem zu_405 : ∀ k, zT 405 k = (0, 0, 1600) := zT_u (by decide +kernel)
theorem zu_406 : ∀ k, zT 406 k = (0, 0, 1600) := zT_u (by decide +kernel)
theorem zu_407 : ∀ k, zT 407 k = (0, 0, 22) := zT_u (by decide +kernel)
theorem zu_408 : ∀ k, zT 408 k = (0, -2147483648, 2147483647) := zT_u (by decide +kernel)
theorem zu_409 : ∀ k, zT 409 k = (0, 0, 5) := zT_u (by decide +kernel)
theorem zu_410 : ∀ k, zT 410 k = (0, 0, 2) := zT_u (by decide +kernel)
theorem zu_411 : ∀ k, zT 411 k = (0, 0, 1) := zT_u (by decide +kernel)
theorem zu_412 : ∀ k, zT 412 k = (0, 0, 16) := zT_u (by decide +kernel)
theorem zu_413 : ∀ k, zT 413 k = (0, 0, 500) := zT_u (by decide +kernel)
theorem zu_414 : ∀ k, zT 414 k = (0, 0, 22) := zT_u (by decide +kernel)
theorem zu_415 : ∀ k, zT 415 k = (0, -2147483648, 2147483647) := zT_u (by decide +kernel)
theorem zu_416 : ∀ k, zT 416 k = (1, -9223372036854775808, 9223372036854775807) := zT_u (by decide +kernel)
theorem zu_417 : ∀ k, zT 417 k = (0, -2147483648, 2147483647) := zT_u (by decide +kernel)
theorem zu_418 : ∀ k, zT 418 k = (0, -2147483648, 2147483647) := zT_u (by decide +kernel)
theorem zu_419 : ∀ k, zT 419 k = (0, 0, 11) := zT_u (by decide +kernel)
theorem zu_420 : ∀ k, zT 420 k = (0, 0, 255) := zT_u (by decide +kernel)
theorem zu_421 : ∀ k, zT 421 k = (0, -1, 5) := zT_u (by decide +kernel)
theorem zu_422 : ∀ k, zT 422 k = (0, -2147483648, 2147483647) := zT_u (by decide +kernel)
theorem zu_423 : ∀ k, zT 423 k = (0, -1, 5) := zT_u (by decide +kernel)
theorem zu_424 : ∀ k, zT 424 k = (0, -2147483648, 2147483647) := zT_u (by decide +kernel)
theorem zu_425 : ∀ k, zT 425 k = (0, -1, 11) := zT_u (by decide +kernel)
theorem zu_426 : ∀ k, zT 426 k = (0, -2147483648, 2147483647) := zT_u (by decide +kernel)
theorem zu_427 : ∀ k, zT 427 k = (0, 0, 2147483647) := zT_u (by decide +kernel)
theorem zu_428 : ∀ k, zT 428 k = (0, -2147483648, 2147483647) := zT_u (by decide +kernel)
theorem zu_429 : ∀ k, zT 429 k = (0, 0, 255) := zT_u (by decide +kernel)
theorem zu_430 : ∀ k, zT 430 k = (0, -2147483648, 2147483647) := zT_u (by decide +kernel)
theorem zu_431 : ∀ k, zT 431 k = (0, 0, 200) := zT_u (by decide +kernel)
theorem zu_432 : ∀ k, zT 432 k = (0, -2147483648, 2147483647) := zT_u (by decide +kernel)
theorem zu_433 : ∀ k, zT 433 k = (0, -2147483648, 2147483647) := zT_u (by decide +kernel)
theorem zu_434 : ∀ k, zT 434 k = (0, 0, 11) := zT_u (by decide +kernel)
theorem zu_435 : ∀ k, zT 435 k = (0, 0, 2147483647) := zT_u (by decide +kernel)
theorem zu_436 : ∀ k, zT 436 k = (0, 0, 11) := zT_u (by decide +kernel)
theorem zu_437 : ∀ k, zT 437 k = (0, -1, 10) := zT_u (by decide +kernel)
theorem zu_438 : ∀ k, zT 438 k = (0, -1, 10) := zT_u (by decide +kernel)
theorem zu_439 : ∀ k, zT 439 k = (0, 0, 255) := zT_u (by decide +kernel)
theorem zu_5 : ∀ k, zT 5 k = (0, -2147483648, 2147483647) := zT_u (by decide +kernel)
theorem zu_50 : ∀ k, zT 50 k = (0, 0, 11) := zT_u (by decide +kernel)
theorem zu_51 : ∀ k, zT 51 k = (0, 0, 1) := zT_u (by decide +kernel)
theorem zu_52 : ∀ k, zT 52 k = (0, -1, 5) := zT_u (by decide +kernel)
theorem zu_53 : ∀ k, zT 53 k = (0, -2147483648, 2147483647) := zT_u (by decide +kernel)
theorem zu_54 : ∀ k, zT 54 k = (0, -1, 5) := zT_u (by decide +kernel)
theorem zu_57 : ∀ k, zT 57 k = (0, -2147483648, 2147483647) := zT_u (by decide +kernel)
theorem zu_58 : ∀ k, zT 58 k = (0, 0, 2147483647) := zT_u (by decide +kernel)
theorem zu_59 : ∀ k, zT 59 k = (0, -2147483648, 1000000) := zT_u (by decide +kernel)
theorem zu_6 : ∀ k, zT 6 k = (0, 0, 1600) := zT_u (by decide +kernel)
theorem zu_6_1 {r : Nat} (h : zRp r) : ∀ k, zT (r + 1) k = (0, 0, 11) := zT_u ((by decide +kernel : ∀ r ∈ zRpL, zTT[r + 1]? = some (true, [(0, 0, 11)])) r h)
theorem zu_6_10 {r : Nat} (h : zRp r) : ∀ k, zT (r + 10) k = (0, -2147483648, 1000000) := zT_u ((by decide +kernel : ∀ r ∈ zRpL, zTT[r + 10]? = some (true, [(0, -2147483648, 1000000)])) r h)
theorem zu_6_11 {r : Nat} (h : zRp r) : ∀ k, zT (r + 11) k = (0, 0, 1) := zT_u ((by decide +kernel : ∀ r ∈ zRpL, zTT[r + 11]? = some (true, [(0, 0, 1)])) r h)
theorem zu_6_12 {r : Nat} (h : zRp r) : ∀ k, zT (r + 12) k = (0, 0, 255) := zT_u ((by decide +kernel : ∀ r ∈ zRpL, zTT[r + 12]? = some (true, [(0, 0, 255)])) r h)
theorem zu_6_13 {r : Nat} (h : zRp r) : ∀ k, zT (r + 13) k = (0, -2147483648, 2147483647) := zT_u ((by decide +kernel : ∀ r ∈ zRpL, zTT[r + 13]? = some (true, [(0, -2147483648, 2147483647)])) r h)
theorem zu_6_2 {r : Nat} (h : zRp r) : ∀ k, zT (r + 2) k = (0, 0, 1) := zT_u ((by decide +kernel : ∀ r ∈ zRpL, zTT[r + 2]? = some (true, [(0, 0, 1)])) r h)
theorem zu_6_3 {r : Nat} (h : zRp r) : ∀ k, zT (r + 3) k = (0, -1, 5) := zT_u ((by decide +kernel : ∀ r ∈ zRpL, zTT[r + 3]? = some (true, [(0, -1, 5)])) r h)
theorem zu_6_4 {r : Nat} (h : zRp r) : ∀ k, zT (r + 4) k = (0, -2147483648, 2147483647) := zT_u ((by decide +kernel : ∀ r ∈ zRpL, zTT[r + 4]? = some (true, [(0, -2147483648, 2147483647)])) r h)
theorem zu_6_5 {r : Nat} (h : zRp r) : ∀ k, zT (r + 5) k = (0, -1, 5) := zT_u ((by decide +kernel : ∀ r ∈ zRpL, zTT[r + 5]? = some (true, [(0, -1, 5)])) r h)
theorem zu_6_6 {r : Nat} (h : zRp r) : ∀ k, zT (r + 6) k = (0, -2147483648, 2147483647) := zT_u ((by decide +kernel : ∀ r ∈ zRpL, zTT[r + 6]? = some (true, [(0, -2147483648, 2147483647)])) r h)
theorem zu_6_7 {r : Nat} (h : zRp r) : ∀ k, zT (r + 7) k = (0, -1, 11) := zT_u ((by decide +kernel : ∀ r ∈ zRpL, zTT[r + 7]? = some (true, [(0, -1, 11)])) r h)
theorem zu_6_8 {r : Nat} (h : zRp r) : ∀ k, zT (r + 8) k = (0, -2147483648, 2147483647) := zT_u ((by decide +kernel : ∀ r ∈ zRpL, zTT[r + 8]? = some (true, [(0, -2147483648, 2147483647)])) r h)
theorem zu_6_9 {r : Nat} (h : zRp r) : ∀ k, zT (r + 9) k = (0, 0, 2147483647) := zT_u ((by decide +kernel : ∀ r ∈ zRpL, zTT[r + 9]? = some (true, [(0, 0, 2147483647)])) r h)
theorem zu_60 : ∀ k, zT 60 k = (0, 0, 1) := zT_u (by decide +kernel)
theorem zu_61 : ∀ k, zT 61 k = (0, 0, 255) := zT_u (by decide +kernel)
theorem zu_7_1 {r : Nat} (h : zTg r) : ∀ k, zT (r + 1) k = (0, 0, 2147483647) := zT_u ((by decide +kernel : ∀ r ∈ zTgL, zTT[r + 1]? = some (true, [(0, 0, 2147483647)])) r h)
