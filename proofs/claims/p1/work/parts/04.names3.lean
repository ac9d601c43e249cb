theorem dX2_open_45 : decode cX2_open 45 = .ok (.getfield 28, 3) := by decide +kernel
theorem dX2_open_48 : decode cX2_open 48 = .ok (.iconst 1, 1) := by decide +kernel
theorem dX2_open_49 : decode cX2_open 49 = .ok (.isub, 1) := by decide +kernel
theorem dX2_open_50 : decode cX2_open 50 = .ok (.iaload, 1) := by decide +kernel
theorem dX2_open_51 : decode cX2_open 51 = .ok (.iadd, 1) := by decide +kernel
theorem dX2_open_52 : decode cX2_open 52 = .ok (.iastore, 1) := by decide +kernel
theorem dX2_open_53 : decode cX2_open 53 = .ok (.aload_n 0, 1) := by decide +kernel
theorem dX2_open_54 : decode cX2_open 54 = .ok (.getfield 22, 3) := by decide +kernel
theorem dX2_open_57 : decode cX2_open 57 = .ok (.aload_n 0, 1) := by decide +kernel
theorem dX2_open_58 : decode cX2_open 58 = .ok (.getfield 28, 3) := by decide +kernel
theorem dX2_open_61 : decode cX2_open 61 = .ok (.iconst 0, 1) := by decide +kernel
theorem dX2_open_62 : decode cX2_open 62 = .ok (.iastore, 1) := by decide +kernel
theorem dX2_open_63 : decode cX2_open 63 = .ok (.aload_n 0, 1) := by decide +kernel
theorem dX2_open_64 : decode cX2_open 64 = .ok (.getfield 15, 3) := by decide +kernel
theorem dX2_open_67 : decode cX2_open 67 = .ok (.aload_n 0, 1) := by decide +kernel
theorem dX2_open_68 : decode cX2_open 68 = .ok (.getfield 28, 3) := by decide +kernel
theorem dX2_open_71 : decode cX2_open 71 = .ok (.iconst 0, 1) := by decide +kernel
theorem dX2_open_72 : decode cX2_open 72 = .ok (.iastore, 1) := by decide +kernel
theorem dX2_open_73 : decode cX2_open 73 = .ok (.aload_n 0, 1) := by decide +kernel
theorem dX2_open_74 : decode cX2_open 74 = .ok (.dup, 1) := by decide +kernel
theorem dX2_open_75 : decode cX2_open 75 = .ok (.getfield 28, 3) := by decide +kernel
theorem dX2_open_78 : decode cX2_open 78 = .ok (.iconst 1, 1) := by decide +kernel
theorem dX2_open_79 : decode cX2_open 79 = .ok (.iadd, 1) := by decide +kernel
theorem dX2_open_80 : decode cX2_open 80 = .ok (.putfield 28, 3) := by decide +kernel
theorem dX2_open_83 : decode cX2_open 83 = .ok (.return_, 1) := by decide +kernel
theorem dX2_nameLast_0 : decode cX2_nameLast 0 = .ok (.aload_n 0, 1) := by decide +kernel
theorem dX2_nameLast_1 : decode cX2_nameLast 1 = .ok (.getfield 28, 3) := by decide +kernel
theorem dX2_nameLast_4 : decode cX2_nameLast 4 = .ok (.iconst 1, 1) := by decide +kernel
theorem dX2_nameLast_5 : decode cX2_nameLast 5 = .ok (.isub, 1) := by decide +kernel
theorem dX2_nameLast_6 : decode cX2_nameLast 6 = .ok (.istore 4, 2) := by decide +kernel
theorem dX2_nameLast_8 : decode cX2_nameLast 8 = .ok (.iload 4, 2) := by decide +kernel
theorem dX2_nameLast_10 : decode cX2_nameLast 10 = .ok (.ifCond .lt 32, 3) := by decide +kernel
theorem dX2_nameLast_13 : decode cX2_nameLast 13 = .ok (.iload_n 3, 1) := by decide +kernel
theorem dX2_nameLast_14 : decode cX2_nameLast 14 = .ok (.bipush 12, 2) := by decide +kernel
theorem dX2_nameLast_16 : decode cX2_nameLast 16 = .ok (.if_icmp .gt 26, 3) := by decide +kernel
theorem dX2_nameLast_19 : decode cX2_nameLast 19 = .ok (.aload_n 1, 1) := by decide +kernel
theorem dX2_nameLast_20 : decode cX2_nameLast 20 = .ok (.iload_n 2, 1) := by decide +kernel
theorem dX2_nameLast_21 : decode cX2_nameLast 21 = .ok (.aload_n 0, 1) := by decide +kernel
theorem dX2_nameLast_22 : decode cX2_nameLast 22 = .ok (.getfield 9, 3) := by decide +kernel
theorem dX2_nameLast_25 : decode cX2_nameLast 25 = .ok (.iload 4, 2) := by decide +kernel
theorem dX2_nameLast_27 : decode cX2_nameLast 27 = .ok (.bipush 12, 2) := by decide +kernel
theorem dX2_nameLast_29 : decode cX2_nameLast 29 = .ok (.imul, 1) := by decide +kernel
theorem dX2_nameLast_30 : decode cX2_nameLast 30 = .ok (.iload_n 3, 1) := by decide +kernel
theorem dX2_nameLast_31 : decode cX2_nameLast 31 = .ok (.invokestatic 32, 3) := by decide +kernel
theorem dX2_nameLast_34 : decode cX2_nameLast 34 = .ok (.aload_n 0, 1) := by decide +kernel
theorem dX2_nameLast_35 : decode cX2_nameLast 35 = .ok (.getfield 15, 3) := by decide +kernel
theorem dX2_nameLast_38 : decode cX2_nameLast 38 = .ok (.iload 4, 2) := by decide +kernel
theorem dX2_nameLast_40 : decode cX2_nameLast 40 = .ok (.iload_n 3, 1) := by decide +kernel
theorem dX2_nameLast_41 : decode cX2_nameLast 41 = .ok (.iastore, 1) := by decide +kernel
theorem dX2_nameLast_42 : decode cX2_nameLast 42 = .ok (.return_, 1) := by decide +kernel
theorem dX2_nameLastByLetter_0 : decode cX2_nameLastByLetter 0 = .ok (.aload_n 0, 1) := by decide +kernel
theorem dX2_nameLastByLetter_1 : decode cX2_nameLastByLetter 1 = .ok (.getfield 28, 3) := by decide +kernel
theorem dX2_nameLastByLetter_4 : decode cX2_nameLastByLetter 4 = .ok (.iconst 1, 1) := by decide +kernel
theorem dX2_nameLastByLetter_5 : decode cX2_nameLastByLetter 5 = .ok (.isub, 1) := by decide +kernel
theorem dX2_nameLastByLetter_6 : decode cX2_nameLastByLetter 6 = .ok (.istore_n 2, 1) := by decide +kernel
theorem dX2_nameLastByLetter_7 : decode cX2_nameLastByLetter 7 = .ok (.iload_n 2, 1) := by decide +kernel
theorem dX2_nameLastByLetter_8 : decode cX2_nameLastByLetter 8 = .ok (.ifCond .lt 21, 3) := by decide +kernel
theorem dX2_nameLastByLetter_11 : decode cX2_nameLastByLetter 11 = .ok (.aload_n 0, 1) := by decide +kernel
theorem dX2_nameLastByLetter_12 : decode cX2_nameLastByLetter 12 = .ok (.getfield 9, 3) := by decide +kernel
theorem dX2_nameLastByLetter_15 : decode cX2_nameLastByLetter 15 = .ok (.iload_n 2, 1) := by decide +kernel
theorem dX2_nameLastByLetter_16 : decode cX2_nameLastByLetter 16 = .ok (.bipush 12, 2) := by decide +kernel
theorem dX2_nameLastByLetter_18 : decode cX2_nameLastByLetter 18 = .ok (.imul, 1) := by decide +kernel
theorem dX2_nameLastByLetter_19 : decode cX2_nameLastByLetter 19 = .ok (.iload_n 1, 1) := by decide +kernel
theorem dX2_nameLastByLetter_20 : decode cX2_nameLastByLetter 20 = .ok (.i2b, 1) := by decide +kernel
theorem dX2_nameLastByLetter_21 : decode cX2_nameLastByLetter 21 = .ok (.bastore, 1) := by decide +kernel
theorem dX2_nameLastByLetter_22 : decode cX2_nameLastByLetter 22 = .ok (.aload_n 0, 1) := by decide +kernel
theorem dX2_nameLastByLetter_23 : decode cX2_nameLastByLetter 23 = .ok (.getfield 15, 3) := by decide +kernel
theorem dX2_nameLastByLetter_26 : decode cX2_nameLastByLetter 26 = .ok (.iload_n 2, 1) := by decide +kernel
theorem dX2_nameLastByLetter_27 : decode cX2_nameLastByLetter 27 = .ok (.iconst 1, 1) := by decide +kernel
theorem dX2_nameLastByLetter_28 : decode cX2_nameLastByLetter 28 = .ok (.iastore, 1) := by decide +kernel
theorem dX2_nameLastByLetter_29 : decode cX2_nameLastByLetter 29 = .ok (.return_, 1) := by decide +kernel
theorem dX2_extendLast_0 : decode cX2_extendLast 0 = .ok (.aload_n 0, 1) := by decide +kernel
theorem dX2_extendLast_1 : decode cX2_extendLast 1 = .ok (.getfield 28, 3) := by decide +kernel
theorem dX2_extendLast_4 : decode cX2_extendLast 4 = .ok (.iconst 1, 1) := by decide +kernel
theorem dX2_extendLast_5 : decode cX2_extendLast 5 = .ok (.isub, 1) := by decide +kernel
theorem dX2_extendLast_6 : decode cX2_extendLast 6 = .ok (.istore 4, 2) := by decide +kernel
theorem dX2_extendLast_8 : decode cX2_extendLast 8 = .ok (.iload 4, 2) := by decide +kernel
theorem dX2_extendLast_10 : decode cX2_extendLast 10 = .ok (.ifCond .lt 64, 3) := by decide +kernel
theorem dX2_extendLast_13 : decode cX2_extendLast 13 = .ok (.aload_n 0, 1) := by decide +kernel
theorem dX2_extendLast_14 : decode cX2_extendLast 14 = .ok (.getfield 19, 3) := by decide +kernel
theorem dX2_extendLast_17 : decode cX2_extendLast 17 = .ok (.iload 4, 2) := by decide +kernel
theorem dX2_extendLast_19 : decode cX2_extendLast 19 = .ok (.iaload, 1) := by decide +kernel
theorem dX2_extendLast_20 : decode cX2_extendLast 20 = .ok (.aload_n 0, 1) := by decide +kernel
theorem dX2_extendLast_21 : decode cX2_extendLast 21 = .ok (.getfield 22, 3) := by decide +kernel
theorem dX2_extendLast_24 : decode cX2_extendLast 24 = .ok (.iload 4, 2) := by decide +kernel
theorem dX2_extendLast_26 : decode cX2_extendLast 26 = .ok (.iaload, 1) := by decide +kernel
theorem dX2_extendLast_27 : decode cX2_extendLast 27 = .ok (.iadd, 1) := by decide +kernel
theorem dX2_extendLast_28 : decode cX2_extendLast 28 = .ok (.iload_n 3, 1) := by decide +kernel
theorem dX2_extendLast_29 : decode cX2_extendLast 29 = .ok (.iadd, 1) := by decide +kernel
theorem dX2_extendLast_30 : decode cX2_extendLast 30 = .ok (.aload_n 0, 1) := by decide +kernel
theorem dX2_extendLast_31 : decode cX2_extendLast 31 = .ok (.getfield 25, 3) := by decide +kernel
theorem dX2_extendLast_34 : decode cX2_extendLast 34 = .ok (.arraylength, 1) := by decide +kernel
theorem dX2_extendLast_35 : decode cX2_extendLast 35 = .ok (.if_icmp .gt 39, 3) := by decide +kernel
theorem dX2_extendLast_38 : decode cX2_extendLast 38 = .ok (.aload_n 1, 1) := by decide +kernel
theorem dX2_extendLast_39 : decode cX2_extendLast 39 = .ok (.iload_n 2, 1) := by decide +kernel
theorem dX2_extendLast_40 : decode cX2_extendLast 40 = .ok (.aload_n 0, 1) := by decide +kernel
theorem dX2_extendLast_41 : decode cX2_extendLast 41 = .ok (.getfield 25, 3) := by decide +kernel
theorem dX2_extendLast_44 : decode cX2_extendLast 44 = .ok (.aload_n 0, 1) := by decide +kernel
theorem dX2_extendLast_45 : decode cX2_extendLast 45 = .ok (.getfield 19, 3) := by decide +kernel
theorem dX2_extendLast_48 : decode cX2_extendLast 48 = .ok (.iload 4, 2) := by decide +kernel
theorem dX2_extendLast_50 : decode cX2_extendLast 50 = .ok (.iaload, 1) := by decide +kernel
theorem dX2_extendLast_51 : decode cX2_extendLast 51 = .ok (.aload_n 0, 1) := by decide +kernel
theorem dX2_extendLast_52 : decode cX2_extendLast 52 = .ok (.getfield 22, 3) := by decide +kernel
theorem dX2_extendLast_55 : decode cX2_extendLast 55 = .ok (.iload 4, 2) := by decide +kernel
theorem dX2_extendLast_57 : decode cX2_extendLast 57 = .ok (.iaload, 1) := by decide +kernel
theorem dX2_extendLast_58 : decode cX2_extendLast 58 = .ok (.iadd, 1) := by decide +kernel
theorem dX2_extendLast_59 : decode cX2_extendLast 59 = .ok (.iload_n 3, 1) := by decide +kernel
theorem dX2_extendLast_60 : decode cX2_extendLast 60 = .ok (.invokestatic 32, 3) := by decide +kernel
theorem dX2_extendLast_63 : decode cX2_extendLast 63 = .ok (.aload_n 0, 1) := by decide +kernel
theorem dX2_extendLast_64 : decode cX2_extendLast 64 = .ok (.getfield 22, 3) := by decide +kernel
theorem dX2_extendLast_67 : decode cX2_extendLast 67 = .ok (.iload 4, 2) := by decide +kernel
theorem dX2_extendLast_69 : decode cX2_extendLast 69 = .ok (.dup2, 1) := by decide +kernel
theorem dX2_extendLast_70 : decode cX2_extendLast 70 = .ok (.iaload, 1) := by decide +kernel
theorem dX2_extendLast_71 : decode cX2_extendLast 71 = .ok (.iload_n 3, 1) := by decide +kernel
theorem dX2_extendLast_72 : decode cX2_extendLast 72 = .ok (.iadd, 1) := by decide +kernel
theorem dX2_extendLast_73 : decode cX2_extendLast 73 = .ok (.iastore, 1) := by decide +kernel
theorem dX2_extendLast_74 : decode cX2_extendLast 74 = .ok (.return_, 1) := by decide +kernel
theorem dX2_extendLastByOne_0 : decode cX2_extendLastByOne 0 = .ok (.aload_n 0, 1) := by decide +kernel
theorem dX2_extendLastByOne_1 : decode cX2_extendLastByOne 1 = .ok (.getfield 28, 3) := by decide +kernel
theorem dX2_extendLastByOne_4 : decode cX2_extendLastByOne 4 = .ok (.iconst 1, 1) := by decide +kernel
theorem dX2_extendLastByOne_5 : decode cX2_extendLastByOne 5 = .ok (.isub, 1) := by decide +kernel
theorem dX2_extendLastByOne_6 : decode cX2_extendLastByOne 6 = .ok (.istore_n 2, 1) := by decide +kernel
theorem dX2_extendLastByOne_7 : decode cX2_extendLastByOne 7 = .ok (.iload_n 2, 1) := by decide +kernel
theorem dX2_extendLastByOne_8 : decode cX2_extendLastByOne 8 = .ok (.ifCond .lt 54, 3) := by decide +kernel
theorem dX2_extendLastByOne_11 : decode cX2_extendLastByOne 11 = .ok (.aload_n 0, 1) := by decide +kernel
theorem dX2_extendLastByOne_12 : decode cX2_extendLastByOne 12 = .ok (.getfield 19, 3) := by decide +kernel
theorem dX2_extendLastByOne_15 : decode cX2_extendLastByOne 15 = .ok (.iload_n 2, 1) := by decide +kernel
theorem dX2_extendLastByOne_16 : decode cX2_extendLastByOne 16 = .ok (.iaload, 1) := by decide +kernel
theorem dX2_extendLastByOne_17 : decode cX2_extendLastByOne 17 = .ok (.aload_n 0, 1) := by decide +kernel
theorem dX2_extendLastByOne_18 : decode cX2_extendLastByOne 18 = .ok (.getfield 22, 3) := by decide +kernel
theorem dX2_extendLastByOne_21 : decode cX2_extendLastByOne 21 = .ok (.iload_n 2, 1) := by decide +kernel
theorem dX2_extendLastByOne_22 : decode cX2_extendLastByOne 22 = .ok (.iaload, 1) := by decide +kernel
theorem dX2_extendLastByOne_23 : decode cX2_extendLastByOne 23 = .ok (.iadd, 1) := by decide +kernel
theorem dX2_extendLastByOne_24 : decode cX2_extendLastByOne 24 = .ok (.aload_n 0, 1) := by decide +kernel
theorem dX2_extendLastByOne_25 : decode cX2_extendLastByOne 25 = .ok (.getfield 25, 3) := by decide +kernel
theorem dX2_extendLastByOne_28 : decode cX2_extendLastByOne 28 = .ok (.arraylength, 1) := by decide +kernel
theorem dX2_extendLastByOne_29 : decode cX2_extendLastByOne 29 = .ok (.if_icmp .ge 33, 3) := by decide +kernel
theorem dX2_extendLastByOne_32 : decode cX2_extendLastByOne 32 = .ok (.aload_n 0, 1) := by decide +kernel
theorem dX2_extendLastByOne_33 : decode cX2_extendLastByOne 33 = .ok (.getfield 25, 3) := by decide +kernel
theorem dX2_extendLastByOne_36 : decode cX2_extendLastByOne 36 = .ok (.aload_n 0, 1) := by decide +kernel
theorem dX2_extendLastByOne_37 : decode cX2_extendLastByOne 37 = .ok (.getfield 19, 3) := by decide +kernel
theorem dX2_extendLastByOne_40 : decode cX2_extendLastByOne 40 = .ok (.iload_n 2, 1) := by decide +kernel
theorem dX2_extendLastByOne_41 : decode cX2_extendLastByOne 41 = .ok (.iaload, 1) := by decide +kernel
theorem dX2_extendLastByOne_42 : decode cX2_extendLastByOne 42 = .ok (.aload_n 0, 1) := by decide +kernel
theorem dX2_extendLastByOne_43 : decode cX2_extendLastByOne 43 = .ok (.getfield 22, 3) := by decide +kernel
theorem dX2_extendLastByOne_46 : decode cX2_extendLastByOne 46 = .ok (.iload_n 2, 1) := by decide +kernel
theorem dX2_extendLastByOne_47 : decode cX2_extendLastByOne 47 = .ok (.iaload, 1) := by decide +kernel
theorem dX2_extendLastByOne_48 : decode cX2_extendLastByOne 48 = .ok (.iadd, 1) := by decide +kernel
theorem dX2_extendLastByOne_49 : decode cX2_extendLastByOne 49 = .ok (.iload_n 1, 1) := by decide +kernel
theorem dX2_extendLastByOne_50 : decode cX2_extendLastByOne 50 = .ok (.i2b, 1) := by decide +kernel
theorem dX2_extendLastByOne_51 : decode cX2_extendLastByOne 51 = .ok (.bastore, 1) := by decide +kernel
theorem dX2_extendLastByOne_52 : decode cX2_extendLastByOne 52 = .ok (.aload_n 0, 1) := by decide +kernel
theorem dX2_extendLastByOne_53 : decode cX2_extendLastByOne 53 = .ok (.getfield 22, 3) := by decide +kernel
theorem dX2_extendLastByOne_56 : decode cX2_extendLastByOne 56 = .ok (.iload_n 2, 1) := by decide +kernel
theorem dX2_extendLastByOne_57 : decode cX2_extendLastByOne 57 = .ok (.dup2, 1) := by decide +kernel
theorem dX2_extendLastByOne_58 : decode cX2_extendLastByOne 58 = .ok (.iaload, 1) := by decide +kernel
theorem dX2_extendLastByOne_59 : decode cX2_extendLastByOne 59 = .ok (.iconst 1, 1) := by decide +kernel
theorem dX2_extendLastByOne_60 : decode cX2_extendLastByOne 60 = .ok (.iadd, 1) := by decide +kernel
theorem dX2_extendLastByOne_61 : decode cX2_extendLastByOne 61 = .ok (.iastore, 1) := by decide +kernel
theorem dX2_extendLastByOne_62 : decode cX2_extendLastByOne 62 = .ok (.return_, 1) := by decide +kernel
theorem dX2_cutLast_0 : decode cX2_cutLast 0 = .ok (.aload_n 0, 1) := by decide +kernel
theorem dX2_cutLast_1 : decode cX2_cutLast 1 = .ok (.getfield 28, 3) := by decide +kernel
theorem dX2_cutLast_4 : decode cX2_cutLast 4 = .ok (.iconst 1, 1) := by decide +kernel
theorem dX2_cutLast_5 : decode cX2_cutLast 5 = .ok (.isub, 1) := by decide +kernel
theorem dX2_cutLast_6 : decode cX2_cutLast 6 = .ok (.istore_n 2, 1) := by decide +kernel
theorem dX2_cutLast_7 : decode cX2_cutLast 7 = .ok (.iload_n 2, 1) := by decide +kernel
theorem dX2_cutLast_8 : decode cX2_cutLast 8 = .ok (.ifCond .lt 20, 3) := by decide +kernel
theorem dX2_cutLast_11 : decode cX2_cutLast 11 = .ok (.aload_n 0, 1) := by decide +kernel
theorem dX2_cutLast_12 : decode cX2_cutLast 12 = .ok (.getfield 22, 3) := by decide +kernel
theorem dX2_cutLast_15 : decode cX2_cutLast 15 = .ok (.iload_n 2, 1) := by decide +kernel
theorem dX2_cutLast_16 : decode cX2_cutLast 16 = .ok (.iaload, 1) := by decide +kernel
theorem dX2_cutLast_17 : decode cX2_cutLast 17 = .ok (.iload_n 1, 1) := by decide +kernel
theorem dX2_cutLast_18 : decode cX2_cutLast 18 = .ok (.if_icmp .le 10, 3) := by decide +kernel
theorem dX2_cutLast_21 : decode cX2_cutLast 21 = .ok (.aload_n 0, 1) := by decide +kernel
theorem dX2_cutLast_22 : decode cX2_cutLast 22 = .ok (.getfield 22, 3) := by decide +kernel
theorem dX2_cutLast_25 : decode cX2_cutLast 25 = .ok (.iload_n 2, 1) := by decide +kernel
theorem dX2_cutLast_26 : decode cX2_cutLast 26 = .ok (.iload_n 1, 1) := by decide +kernel
theorem dX2_cutLast_27 : decode cX2_cutLast 27 = .ok (.iastore, 1) := by decide +kernel
theorem dX2_cutLast_28 : decode cX2_cutLast 28 = .ok (.return_, 1) := by decide +kernel
theorem dX3_init_0 : decode cX3_init 0 = .ok (.aload_n 0, 1) := by decide +kernel
theorem dX3_init_1 : decode cX3_init 1 = .ok (.invokespecial 3, 3) := by decide +kernel
theorem dX3_init_4 : decode cX3_init 4 = .ok (.return_, 1) := by decide +kernel
set_option maxRecDepth 20000 in
theorem ggX3_hear_X6_empty : GoodIn wsX3_hear wsX6_empty := goodIn_r _ [6, 7, 248, 249] (by decide +kernel) (by decide +kernel)
set_option maxRecDepth 20000 in
theorem gX3_hear_X6_empty : GoodIn wsX3_hear (wsV RX3 15 RX6 yX6_empty wsX6_empty) := goodIn_app (goodIn_of _ (by decide +kernel)) ggX3_hear_X6_empty
set_option maxRecDepth 20000 in
theorem ggX3_hear_X6_isByte : GoodIn wsX3_hear wsX6_isByte := goodIn_r _ [11, 7, 12, 13, 14, 5, 15, 16, 248, 249] (by decide +kernel) (by decide +kernel)
set_option maxRecDepth 20000 in
theorem gX3_hear_X6_isByte : GoodIn wsX3_hear (wsV RX3 20 RX6 yX6_isByte wsX6_isByte) := goodIn_app (goodIn_of _ (by decide +kernel)) ggX3_hear_X6_isByte
set_option maxRecDepth 20000 in
theorem ggX3_hear_X0_answer : GoodIn wsX3_hear wsX0_answer := goodIn_r _ [22, 23, 24, 25, 26, 27, 28, 5, 29, 7, 30, 31, 32, 33, 12, 13, 14, 15, 16, 34, 35, 36, 37, 38, 39, 40, 41, 42, 43, 44, 45, 21, 46, 47, 48, 49, 50, 51, 52, 53, 54, 55, 56, 57, 58, 59, 60, 61, 62, 63, 64, 65, 66, 67, 68, 69, 70, 71, 72, 73, 74, 75, 76, 77, 78, 79, 80, 81, 82, 83, 84, 85, 86, 87, 88, 89, 90, 91, 92, 93, 94, 95, 96, 97, 98, 99, 100, 101, 102, 103, 104, 105, 106, 107, 108, 109, 110, 111, 112, 113, 1, 114, 115, 9, 10, 11, 116, 117, 118, 119, 120, 121, 122, 123, 124, 125, 126, 127, 128, 129, 130, 131, 132, 133, 134, 135, 136, 137, 138, 139, 140, 141, 142, 143, 144, 229, 230, 231, 232, 233, 234, 235, 236, 237, 238, 239, 240, 241, 242, 243, 244, 245, 246, 247, 248, 249, 250, 251, 252, 253, 254, 255] (by decide +kernel) (by decide +kernel)
set_option maxRecDepth 20000 in
theorem gX3_hear_X0_answer_u24X0 : GoodIn wsX3_hear (va_wsU RX3 24 RX0 "BatchTransfer$Side" ⟨"BatchTransfer$Side", "answer", "(LBatchTransfer$Wire;)V"⟩ yX0_answer wsX0_answer) := goodIn_app (goodIn_of _ (by decide +kernel)) ggX3_hear_X0_answer
set_option maxRecDepth 20000 in
theorem ggX3_hear_X1_answer : GoodIn wsX3_hear wsX1_answer := goodIn_r _ [148, 149, 150, 151, 152, 153, 142, 143, 144, 154, 9, 10, 5, 11, 7, 12, 13, 14, 15, 16, 155, 156, 157, 147, 158, 159, 160, 161, 162, 163, 164, 3, 4, 6, 165, 166, 167, 168, 169, 170, 171, 172, 173, 174, 78, 79, 80, 175, 176, 177, 178, 179, 180, 181, 182, 66, 183, 68, 184, 185, 186, 187, 188, 189, 190, 34, 35, 36, 37, 38, 39, 40, 41, 42, 191, 192, 193, 194, 195, 196, 197, 198, 199, 200, 201, 202, 203, 204, 205, 206, 207, 105, 106, 107, 208, 209, 210, 211, 212, 213, 214, 215, 216, 217, 218, 219, 220, 221, 222, 223, 224, 225, 226, 227, 228, 135, 112, 136, 137, 138, 139, 140, 111, 113, 1, 114, 141, 238, 239, 240, 241, 242, 243, 244, 245, 246, 247, 229, 230, 231, 232, 233, 234, 235, 236, 237, 248, 249, 250, 251, 252, 253, 254, 255] (by decide +kernel) (by decide +kernel)
set_option maxRecDepth 20000 in
theorem gX3_hear_X1_answer_u24X1 : GoodIn wsX3_hear (va_wsU RX3 24 RX1 "BatchTransfer$Side" ⟨"BatchTransfer$Side", "answer", "(LBatchTransfer$Wire;)V"⟩ yX1_answer wsX1_answer) := goodIn_app (goodIn_of _ (by decide +kernel)) ggX3_hear_X1_answer
theorem dX3_hear_0 : decode cX3_hear 0 = .ok (.aload_n 0, 1) := by decide +kernel
theorem dX3_hear_1 : decode cX3_hear 1 = .ok (.getfield 9, 3) := by decide +kernel
theorem dX3_hear_4 : decode cX3_hear 4 = .ok (.ifCond .eq 10, 3) := by decide +kernel
theorem dX3_hear_7 : decode cX3_hear 7 = .ok (.aload_n 1, 1) := by decide +kernel
theorem dX3_hear_8 : decode cX3_hear 8 = .ok (.invokevirtual 15, 3) := by decide +kernel
theorem dX3_hear_11 : decode cX3_hear 11 = .ok (.goto 29, 3) := by decide +kernel
theorem dX3_hear_14 : decode cX3_hear 14 = .ok (.aload_n 1, 1) := by decide +kernel
theorem dX3_hear_15 : decode cX3_hear 15 = .ok (.bipush 24, 2) := by decide +kernel
theorem dX3_hear_17 : decode cX3_hear 17 = .ok (.invokevirtual 20, 3) := by decide +kernel
theorem dX3_hear_20 : decode cX3_hear 20 = .ok (.ifCond .eq 15, 3) := by decide +kernel
theorem dX3_hear_23 : decode cX3_hear 23 = .ok (.aload_n 0, 1) := by decide +kernel
theorem dX3_hear_24 : decode cX3_hear 24 = .ok (.iconst 2, 1) := by decide +kernel
theorem dX3_hear_25 : decode cX3_hear 25 = .ok (.putfield 9, 3) := by decide +kernel
theorem dX3_hear_28 : decode cX3_hear 28 = .ok (.aload_n 1, 1) := by decide +kernel
theorem dX3_hear_29 : decode cX3_hear 29 = .ok (.invokevirtual 15, 3) := by decide +kernel
theorem dX3_hear_32 : decode cX3_hear 32 = .ok (.goto 8, 3) := by decide +kernel
theorem dX3_hear_35 : decode cX3_hear 35 = .ok (.aload_n 0, 1) := by decide +kernel
theorem dX3_hear_36 : decode cX3_hear 36 = .ok (.aload_n 1, 1) := by decide +kernel
theorem dX3_hear_37 : decode cX3_hear 37 = .ok (.invokevirtual 24, 3) := by decide +kernel
theorem dX3_hear_40 : decode cX3_hear 40 = .ok (.return_, 1) := by decide +kernel
theorem dX3_startWork_0 : decode cX3_startWork 0 = .ok (.aload_n 0, 1) := by decide +kernel
theorem dX3_startWork_1 : decode cX3_startWork 1 = .ok (.iload_n 1, 1) := by decide +kernel
theorem dX3_startWork_2 : decode cX3_startWork 2 = .ok (.putfield 28, 3) := by decide +kernel
theorem dX3_startWork_5 : decode cX3_startWork 5 = .ok (.aload_n 0, 1) := by decide +kernel
theorem dX3_startWork_6 : decode cX3_startWork 6 = .ok (.iconst 0, 1) := by decide +kernel
theorem dX3_startWork_7 : decode cX3_startWork 7 = .ok (.putfield 9, 3) := by decide +kernel
theorem dX3_startWork_10 : decode cX3_startWork 10 = .ok (.aload_n 0, 1) := by decide +kernel
theorem dX3_startWork_11 : decode cX3_startWork 11 = .ok (.iconst 0, 1) := by decide +kernel
theorem dX3_startWork_12 : decode cX3_startWork 12 = .ok (.putfield 31, 3) := by decide +kernel
theorem dX3_startWork_15 : decode cX3_startWork 15 = .ok (.return_, 1) := by decide +kernel
set_option maxRecDepth 20000 in
theorem ggX3_bearsMiss_X3_giveUp : GoodIn wsX3_bearsMiss wsX3_giveUp := goodIn_r _ [7, 8, 9, 10, 11, 12, 13, 14, 15, 17, 18, 19, 20, 21, 22, 23, 24, 25, 26, 27, 28, 29, 30, 31, 32, 33, 34, 35, 36, 37] (by decide +kernel) (by decide +kernel)
set_option maxRecDepth 20000 in
theorem gX3_bearsMiss_X3_giveUp_u34X0 : GoodIn wsX3_bearsMiss (va_wsU RX3 34 RX0 "BatchTransfer$Side" ⟨"BatchTransfer$Side", "giveUp", "(LBatchTransfer$Wire;)V"⟩ yX3_giveUp wsX3_giveUp) := goodIn_app (goodIn_of _ (by decide +kernel)) ggX3_bearsMiss_X3_giveUp
set_option maxRecDepth 20000 in
theorem gX3_bearsMiss_X3_giveUp_u34X1 : GoodIn wsX3_bearsMiss (va_wsU RX3 34 RX1 "BatchTransfer$Side" ⟨"BatchTransfer$Side", "giveUp", "(LBatchTransfer$Wire;)V"⟩ yX3_giveUp wsX3_giveUp) := goodIn_app (goodIn_of _ (by decide +kernel)) ggX3_bearsMiss_X3_giveUp
theorem dX3_bearsMiss_0 : decode cX3_bearsMiss 0 = .ok (.aload_n 0, 1) := by decide +kernel
theorem dX3_bearsMiss_1 : decode cX3_bearsMiss 1 = .ok (.dup, 1) := by decide +kernel
theorem dX3_bearsMiss_2 : decode cX3_bearsMiss 2 = .ok (.getfield 31, 3) := by decide +kernel
theorem dX3_bearsMiss_5 : decode cX3_bearsMiss 5 = .ok (.iconst 1, 1) := by decide +kernel
theorem dX3_bearsMiss_6 : decode cX3_bearsMiss 6 = .ok (.iadd, 1) := by decide +kernel
theorem dX3_bearsMiss_7 : decode cX3_bearsMiss 7 = .ok (.putfield 31, 3) := by decide +kernel
theorem dX3_bearsMiss_10 : decode cX3_bearsMiss 10 = .ok (.aload_n 0, 1) := by decide +kernel
theorem dX3_bearsMiss_11 : decode cX3_bearsMiss 11 = .ok (.getfield 31, 3) := by decide +kernel
theorem dX3_bearsMiss_14 : decode cX3_bearsMiss 14 = .ok (.bipush 10, 2) := by decide +kernel
theorem dX3_bearsMiss_16 : decode cX3_bearsMiss 16 = .ok (.if_icmp .gt 5, 3) := by decide +kernel
theorem dX3_bearsMiss_19 : decode cX3_bearsMiss 19 = .ok (.iconst 1, 1) := by decide +kernel
theorem dX3_bearsMiss_20 : decode cX3_bearsMiss 20 = .ok (.ireturn, 1) := by decide +kernel
theorem dX3_bearsMiss_21 : decode cX3_bearsMiss 21 = .ok (.aload_n 0, 1) := by decide +kernel
theorem dX3_bearsMiss_22 : decode cX3_bearsMiss 22 = .ok (.aload_n 1, 1) := by decide +kernel
theorem dX3_bearsMiss_23 : decode cX3_bearsMiss 23 = .ok (.invokevirtual 34, 3) := by decide +kernel
theorem dX3_bearsMiss_26 : decode cX3_bearsMiss 26 = .ok (.iconst 0, 1) := by decide +kernel
theorem dX3_bearsMiss_27 : decode cX3_bearsMiss 27 = .ok (.ireturn, 1) := by decide +kernel
set_option maxRecDepth 20000 in
theorem ggX3_giveUp_X6_putByte : GoodIn wsX3_giveUp wsX6_putByte := goodIn_r _ [6, 7, 8, 28, 29] (by decide +kernel) (by decide +kernel)
set_option maxRecDepth 20000 in
theorem gX3_giveUp_X6_putByte : GoodIn wsX3_giveUp (wsV RX3 37 RX6 yX6_putByte wsX6_putByte) := goodIn_app (goodIn_of _ (by decide +kernel)) ggX3_giveUp_X6_putByte
theorem dX3_giveUp_0 : decode cX3_giveUp 0 = .ok (.aload_n 0, 1) := by decide +kernel
theorem dX3_giveUp_1 : decode cX3_giveUp 1 = .ok (.iconst 2, 1) := by decide +kernel
theorem dX3_giveUp_2 : decode cX3_giveUp 2 = .ok (.putfield 9, 3) := by decide +kernel
theorem dX3_giveUp_5 : decode cX3_giveUp 5 = .ok (.aload_n 1, 1) := by decide +kernel
theorem dX3_giveUp_6 : decode cX3_giveUp 6 = .ok (.bipush 24, 2) := by decide +kernel
theorem dX3_giveUp_8 : decode cX3_giveUp 8 = .ok (.invokevirtual 37, 3) := by decide +kernel
theorem dX3_giveUp_11 : decode cX3_giveUp 11 = .ok (.return_, 1) := by decide +kernel
theorem dX4_init_0 : decode cX4_init 0 = .ok (.aload_n 0, 1) := by decide +kernel
theorem dX4_init_1 : decode cX4_init 1 = .ok (.invokespecial 3, 3) := by decide +kernel
theorem dX4_init_4 : decode cX4_init 4 = .ok (.aload_n 0, 1) := by decide +kernel
theorem dX4_init_5 : decode cX4_init 5 = .ok (.sipush 3100, 3) := by decide +kernel
theorem dX4_init_8 : decode cX4_init 8 = .ok (.newarray .byte, 2) := by decide +kernel
theorem dX4_init_10 : decode cX4_init 10 = .ok (.putfield 9, 3) := by decide +kernel
theorem dX4_init_13 : decode cX4_init 13 = .ok (.return_, 1) := by decide +kernel
theorem dX4_append_0 : decode cX4_append 0 = .ok (.bipush 24, 2) := by decide +kernel
theorem dX4_append_2 : decode cX4_append 2 = .ok (.istore_n 2, 1) := by decide +kernel
theorem dX4_append_3 : decode cX4_append 3 = .ok (.iload_n 2, 1) := by decide +kernel
theorem dX4_append_4 : decode cX4_append 4 = .ok (.ifCond .lt 42, 3) := by decide +kernel
theorem dX4_append_7 : decode cX4_append 7 = .ok (.aload_n 0, 1) := by decide +kernel
theorem dX4_append_8 : decode cX4_append 8 = .ok (.getfield 15, 3) := by decide +kernel
theorem dX4_append_11 : decode cX4_append 11 = .ok (.sipush 3100, 3) := by decide +kernel
theorem dX4_append_14 : decode cX4_append 14 = .ok (.if_icmp .ge 32, 3) := by decide +kernel
theorem dX4_append_17 : decode cX4_append 17 = .ok (.aload_n 0, 1) := by decide +kernel
theorem dX4_append_18 : decode cX4_append 18 = .ok (.getfield 9, 3) := by decide +kernel
theorem dX4_append_21 : decode cX4_append 21 = .ok (.aload_n 0, 1) := by decide +kernel
theorem dX4_append_22 : decode cX4_append 22 = .ok (.getfield 15, 3) := by decide +kernel
theorem dX4_append_25 : decode cX4_append 25 = .ok (.iload_n 1, 1) := by decide +kernel
theorem dX4_append_26 : decode cX4_append 26 = .ok (.iload_n 2, 1) := by decide +kernel
theorem dX4_append_27 : decode cX4_append 27 = .ok (.ishr, 1) := by decide +kernel
theorem dX4_append_28 : decode cX4_append 28 = .ok (.i2b, 1) := by decide +kernel
theorem dX4_append_29 : decode cX4_append 29 = .ok (.bastore, 1) := by decide +kernel
theorem dX4_append_30 : decode cX4_append 30 = .ok (.aload_n 0, 1) := by decide +kernel
theorem dX4_append_31 : decode cX4_append 31 = .ok (.dup, 1) := by decide +kernel
theorem dX4_append_32 : decode cX4_append 32 = .ok (.getfield 15, 3) := by decide +kernel
theorem dX4_append_35 : decode cX4_append 35 = .ok (.iconst 1, 1) := by decide +kernel
theorem dX4_append_36 : decode cX4_append 36 = .ok (.iadd, 1) := by decide +kernel
theorem dX4_append_37 : decode cX4_append 37 = .ok (.putfield 15, 3) := by decide +kernel
theorem dX4_append_40 : decode cX4_append 40 = .ok (.iinc 2 (-8), 3) := by decide +kernel
theorem dX4_append_43 : decode cX4_append 43 = .ok (.goto (-40), 3) := by decide +kernel
theorem dX4_append_46 : decode cX4_append 46 = .ok (.return_, 1) := by decide +kernel
theorem dX4_nameLength_0 : decode cX4_nameLength 0 = .ok (.iconst 0, 1) := by decide +kernel
theorem dX4_nameLength_1 : decode cX4_nameLength 1 = .ok (.istore_n 1, 1) := by decide +kernel
theorem dX4_nameLength_2 : decode cX4_nameLength 2 = .ok (.iload_n 1, 1) := by decide +kernel
theorem dX4_nameLength_3 : decode cX4_nameLength 3 = .ok (.aload_n 0, 1) := by decide +kernel
theorem dX4_nameLength_4 : decode cX4_nameLength 4 = .ok (.getfield 15, 3) := by decide +kernel
theorem dX4_nameLength_7 : decode cX4_nameLength 7 = .ok (.if_icmp .ge 34, 3) := by decide +kernel
theorem dX4_nameLength_10 : decode cX4_nameLength 10 = .ok (.iload_n 1, 1) := by decide +kernel
theorem dX4_nameLength_11 : decode cX4_nameLength 11 = .ok (.bipush 12, 2) := by decide +kernel
theorem dX4_nameLength_13 : decode cX4_nameLength 13 = .ok (.if_icmp .gt 28, 3) := by decide +kernel
theorem dX4_nameLength_16 : decode cX4_nameLength 16 = .ok (.aload_n 0, 1) := by decide +kernel
theorem dX4_nameLength_17 : decode cX4_nameLength 17 = .ok (.getfield 9, 3) := by decide +kernel
theorem dX4_nameLength_20 : decode cX4_nameLength 20 = .ok (.iload_n 1, 1) := by decide +kernel
theorem dX4_nameLength_21 : decode cX4_nameLength 21 = .ok (.baload, 1) := by decide +kernel
theorem dX4_nameLength_22 : decode cX4_nameLength 22 = .ok (.ifCond .ne 13, 3) := by decide +kernel
theorem dX4_nameLength_25 : decode cX4_nameLength 25 = .ok (.iload_n 1, 1) := by decide +kernel
theorem dX4_nameLength_26 : decode cX4_nameLength 26 = .ok (.ifCond .ne 7, 3) := by decide +kernel
theorem dX4_nameLength_29 : decode cX4_nameLength 29 = .ok (.iconst (-1), 1) := by decide +kernel
theorem dX4_nameLength_30 : decode cX4_nameLength 30 = .ok (.goto 4, 3) := by decide +kernel
theorem dX4_nameLength_33 : decode cX4_nameLength 33 = .ok (.iload_n 1, 1) := by decide +kernel
theorem dX4_nameLength_34 : decode cX4_nameLength 34 = .ok (.ireturn, 1) := by decide +kernel
theorem dX4_nameLength_35 : decode cX4_nameLength 35 = .ok (.iinc 1 1, 3) := by decide +kernel
theorem dX4_nameLength_38 : decode cX4_nameLength 38 = .ok (.goto (-36), 3) := by decide +kernel
theorem dX4_nameLength_41 : decode cX4_nameLength 41 = .ok (.iconst (-1), 1) := by decide +kernel
theorem dX4_nameLength_42 : decode cX4_nameLength 42 = .ok (.ireturn, 1) := by decide +kernel
theorem dX6_init_0 : decode cX6_init 0 = .ok (.aload_n 0, 1) := by decide +kernel
theorem dX6_init_1 : decode cX6_init 1 = .ok (.invokespecial 3, 3) := by decide +kernel
theorem dX6_init_4 : decode cX6_init 4 = .ok (.aload_n 0, 1) := by decide +kernel
theorem dX6_init_5 : decode cX6_init 5 = .ok (.sipush 1029, 3) := by decide +kernel
theorem dX6_init_8 : decode cX6_init 8 = .ok (.newarray .byte, 2) := by decide +kernel
theorem dX6_init_10 : decode cX6_init 10 = .ok (.putfield 9, 3) := by decide +kernel
theorem dX6_init_13 : decode cX6_init 13 = .ok (.return_, 1) := by decide +kernel
theorem dX6_get_0 : decode cX6_get 0 = .ok (.aload_n 0, 1) := by decide +kernel
theorem dX6_get_1 : decode cX6_get 1 = .ok (.getfield 9, 3) := by decide +kernel
theorem dX6_get_4 : decode cX6_get 4 = .ok (.iload_n 1, 1) := by decide +kernel
theorem dX6_get_5 : decode cX6_get 5 = .ok (.baload, 1) := by decide +kernel
theorem dX6_get_6 : decode cX6_get 6 = .ok (.sipush 255, 3) := by decide +kernel
theorem dX6_get_9 : decode cX6_get 9 = .ok (.iand, 1) := by decide +kernel
theorem dX6_get_10 : decode cX6_get 10 = .ok (.ireturn, 1) := by decide +kernel
theorem dX6_empty_0 : decode cX6_empty 0 = .ok (.aload_n 0, 1) := by decide +kernel
theorem dX6_empty_1 : decode cX6_empty 1 = .ok (.iconst 0, 1) := by decide +kernel
theorem dX6_empty_2 : decode cX6_empty 2 = .ok (.putfield 15, 3) := by decide +kernel
theorem dX6_empty_5 : decode cX6_empty 5 = .ok (.return_, 1) := by decide +kernel
theorem dX6_putByte_0 : decode cX6_putByte 0 = .ok (.aload_n 0, 1) := by decide +kernel
theorem dX6_putByte_1 : decode cX6_putByte 1 = .ok (.getfield 9, 3) := by decide +kernel
theorem dX6_putByte_4 : decode cX6_putByte 4 = .ok (.iconst 0, 1) := by decide +kernel
theorem dX6_putByte_5 : decode cX6_putByte 5 = .ok (.iload_n 1, 1) := by decide +kernel
theorem dX6_putByte_6 : decode cX6_putByte 6 = .ok (.i2b, 1) := by decide +kernel
theorem dX6_putByte_7 : decode cX6_putByte 7 = .ok (.bastore, 1) := by decide +kernel
theorem dX6_putByte_8 : decode cX6_putByte 8 = .ok (.aload_n 0, 1) := by decide +kernel
theorem dX6_putByte_9 : decode cX6_putByte 9 = .ok (.iconst 1, 1) := by decide +kernel
theorem dX6_putByte_10 : decode cX6_putByte 10 = .ok (.putfield 15, 3) := by decide +kernel
theorem dX6_putByte_13 : decode cX6_putByte 13 = .ok (.return_, 1) := by decide +kernel
set_option maxRecDepth 20000 in
theorem ggX6_isByte_X6_get : GoodIn wsX6_isByte wsX6_get := goodIn_r _ [6, 7, 8, 9] (by decide +kernel) (by decide +kernel)
set_option maxRecDepth 20000 in
theorem gX6_isByte_X6_get : GoodIn wsX6_isByte (wsV RX6 19 RX6 yX6_get wsX6_get) := goodIn_app (goodIn_of _ (by decide +kernel)) ggX6_isByte_X6_get
theorem dX6_isByte_0 : decode cX6_isByte 0 = .ok (.aload_n 0, 1) := by decide +kernel
theorem dX6_isByte_1 : decode cX6_isByte 1 = .ok (.getfield 15, 3) := by decide +kernel
theorem dX6_isByte_4 : decode cX6_isByte 4 = .ok (.iconst 1, 1) := by decide +kernel
theorem dX6_isByte_5 : decode cX6_isByte 5 = .ok (.if_icmp .ne 16, 3) := by decide +kernel
theorem dX6_isByte_8 : decode cX6_isByte 8 = .ok (.aload_n 0, 1) := by decide +kernel
theorem dX6_isByte_9 : decode cX6_isByte 9 = .ok (.iconst 0, 1) := by decide +kernel
theorem dX6_isByte_10 : decode cX6_isByte 10 = .ok (.invokevirtual 19, 3) := by decide +kernel
theorem dX6_isByte_13 : decode cX6_isByte 13 = .ok (.iload_n 1, 1) := by decide +kernel
theorem dX6_isByte_14 : decode cX6_isByte 14 = .ok (.if_icmp .ne 7, 3) := by decide +kernel
theorem dX6_isByte_17 : decode cX6_isByte 17 = .ok (.iconst 1, 1) := by decide +kernel
theorem dX6_isByte_18 : decode cX6_isByte 18 = .ok (.goto 4, 3) := by decide +kernel
theorem dX6_isByte_21 : decode cX6_isByte 21 = .ok (.iconst 0, 1) := by decide +kernel
theorem dX6_isByte_22 : decode cX6_isByte 22 = .ok (.ireturn, 1) := by decide +kernel
set_option maxRecDepth 20000 in
theorem ggX6_damage_J9_floorMod_7cf53 : GoodIn wsX6_damage wsJ9_floorMod_7cf53 := goodIn_r _ [6] (by decide +kernel) (by decide +kernel)
set_option maxRecDepth 20000 in
theorem gX6_damage_J9_floorMod_7cf53 : GoodIn wsX6_damage (va_wsS RX6 23 yJ9_floorMod_7cf53 wsJ9_floorMod_7cf53) := goodIn_app (goodIn_of _ (by decide +kernel)) ggX6_damage_J9_floorMod_7cf53
theorem dX6_damage_0 : decode cX6_damage 0 = .ok (.aload_n 0, 1) := by decide +kernel
theorem dX6_damage_1 : decode cX6_damage 1 = .ok (.getfield 15, 3) := by decide +kernel
theorem dX6_damage_4 : decode cX6_damage 4 = .ok (.ifCond .le 22, 3) := by decide +kernel
theorem dX6_damage_7 : decode cX6_damage 7 = .ok (.aload_n 0, 1) := by decide +kernel
theorem dX6_damage_8 : decode cX6_damage 8 = .ok (.getfield 9, 3) := by decide +kernel
theorem dX6_damage_11 : decode cX6_damage 11 = .ok (.iload_n 1, 1) := by decide +kernel
theorem dX6_damage_12 : decode cX6_damage 12 = .ok (.aload_n 0, 1) := by decide +kernel
theorem dX6_damage_13 : decode cX6_damage 13 = .ok (.getfield 15, 3) := by decide +kernel
theorem dX6_damage_16 : decode cX6_damage 16 = .ok (.invokestatic 23, 3) := by decide +kernel
theorem dX6_damage_19 : decode cX6_damage 19 = .ok (.dup2, 1) := by decide +kernel
theorem dX6_damage_20 : decode cX6_damage 20 = .ok (.baload, 1) := by decide +kernel
theorem dX6_damage_21 : decode cX6_damage 21 = .ok (.iload_n 2, 1) := by decide +kernel
theorem dX6_damage_22 : decode cX6_damage 22 = .ok (.i2b, 1) := by decide +kernel
theorem dX6_damage_23 : decode cX6_damage 23 = .ok (.ixor, 1) := by decide +kernel
theorem dX6_damage_24 : decode cX6_damage 24 = .ok (.i2b, 1) := by decide +kernel
theorem dX6_damage_25 : decode cX6_damage 25 = .ok (.bastore, 1) := by decide +kernel
theorem dX6_damage_26 : decode cX6_damage 26 = .ok (.return_, 1) := by decide +kernel
theorem dX6_openBlock_0 : decode cX6_openBlock 0 = .ok (.aload_n 0, 1) := by decide +kernel
theorem dX6_openBlock_1 : decode cX6_openBlock 1 = .ok (.getfield 9, 3) := by decide +kernel
theorem dX6_openBlock_4 : decode cX6_openBlock 4 = .ok (.iconst 0, 1) := by decide +kernel
theorem dX6_openBlock_5 : decode cX6_openBlock 5 = .ok (.iload_n 2, 1) := by decide +kernel
theorem dX6_openBlock_6 : decode cX6_openBlock 6 = .ok (.sipush 1024, 3) := by decide +kernel
theorem dX6_openBlock_9 : decode cX6_openBlock 9 = .ok (.if_icmp .ne 7, 3) := by decide +kernel
theorem dX6_openBlock_12 : decode cX6_openBlock 12 = .ok (.iconst 2, 1) := by decide +kernel
theorem dX6_openBlock_13 : decode cX6_openBlock 13 = .ok (.goto 4, 3) := by decide +kernel
theorem dX6_openBlock_16 : decode cX6_openBlock 16 = .ok (.iconst 1, 1) := by decide +kernel
theorem dX6_openBlock_17 : decode cX6_openBlock 17 = .ok (.i2b, 1) := by decide +kernel
theorem dX6_openBlock_18 : decode cX6_openBlock 18 = .ok (.bastore, 1) := by decide +kernel
theorem dX6_openBlock_19 : decode cX6_openBlock 19 = .ok (.aload_n 0, 1) := by decide +kernel
theorem dX6_openBlock_20 : decode cX6_openBlock 20 = .ok (.getfield 9, 3) := by decide +kernel
theorem dX6_openBlock_23 : decode cX6_openBlock 23 = .ok (.iconst 1, 1) := by decide +kernel
theorem dX6_openBlock_24 : decode cX6_openBlock 24 = .ok (.iload_n 1, 1) := by decide +kernel
theorem dX6_openBlock_25 : decode cX6_openBlock 25 = .ok (.i2b, 1) := by decide +kernel
theorem dX6_openBlock_26 : decode cX6_openBlock 26 = .ok (.bastore, 1) := by decide +kernel
theorem dX6_openBlock_27 : decode cX6_openBlock 27 = .ok (.aload_n 0, 1) := by decide +kernel
theorem dX6_openBlock_28 : decode cX6_openBlock 28 = .ok (.getfield 9, 3) := by decide +kernel
theorem dX6_openBlock_31 : decode cX6_openBlock 31 = .ok (.iconst 2, 1) := by decide +kernel
theorem dX6_openBlock_32 : decode cX6_openBlock 32 = .ok (.sipush 255, 3) := by decide +kernel
theorem dX6_openBlock_35 : decode cX6_openBlock 35 = .ok (.iload_n 1, 1) := by decide +kernel
theorem dX6_openBlock_36 : decode cX6_openBlock 36 = .ok (.isub, 1) := by decide +kernel
theorem dX6_openBlock_37 : decode cX6_openBlock 37 = .ok (.i2b, 1) := by decide +kernel
theorem dX6_openBlock_38 : decode cX6_openBlock 38 = .ok (.bastore, 1) := by decide +kernel
theorem dX6_openBlock_39 : decode cX6_openBlock 39 = .ok (.aload_n 0, 1) := by decide +kernel
theorem dX6_openBlock_40 : decode cX6_openBlock 40 = .ok (.iconst 3, 1) := by decide +kernel
theorem dX6_openBlock_41 : decode cX6_openBlock 41 = .ok (.iload_n 2, 1) := by decide +kernel
theorem dX6_openBlock_42 : decode cX6_openBlock 42 = .ok (.iadd, 1) := by decide +kernel
theorem dX6_openBlock_43 : decode cX6_openBlock 43 = .ok (.putfield 15, 3) := by decide +kernel
theorem dX6_openBlock_46 : decode cX6_openBlock 46 = .ok (.iconst 3, 1) := by decide +kernel
theorem dX6_openBlock_47 : decode cX6_openBlock 47 = .ok (.istore 4, 2) := by decide +kernel
theorem dX6_openBlock_49 : decode cX6_openBlock 49 = .ok (.iload 4, 2) := by decide +kernel
theorem dX6_openBlock_51 : decode cX6_openBlock 51 = .ok (.aload_n 0, 1) := by decide +kernel
theorem dX6_openBlock_52 : decode cX6_openBlock 52 = .ok (.getfield 15, 3) := by decide +kernel
theorem dX6_openBlock_55 : decode cX6_openBlock 55 = .ok (.if_icmp .ge 18, 3) := by decide +kernel
theorem dX6_openBlock_58 : decode cX6_openBlock 58 = .ok (.aload_n 0, 1) := by decide +kernel
theorem dX6_openBlock_59 : decode cX6_openBlock 59 = .ok (.getfield 9, 3) := by decide +kernel
theorem dX6_openBlock_62 : decode cX6_openBlock 62 = .ok (.iload 4, 2) := by decide +kernel
theorem dX6_openBlock_64 : decode cX6_openBlock 64 = .ok (.iload_n 3, 1) := by decide +kernel
theorem dX6_openBlock_65 : decode cX6_openBlock 65 = .ok (.i2b, 1) := by decide +kernel
theorem dX6_openBlock_66 : decode cX6_openBlock 66 = .ok (.bastore, 1) := by decide +kernel
theorem dX6_openBlock_67 : decode cX6_openBlock 67 = .ok (.iinc 4 1, 3) := by decide +kernel
theorem dX6_openBlock_70 : decode cX6_openBlock 70 = .ok (.goto (-21), 3) := by decide +kernel
theorem dX6_openBlock_73 : decode cX6_openBlock 73 = .ok (.return_, 1) := by decide +kernel
set_option maxRecDepth 20000 in
theorem ggX6_sealBlock_X6_sum : GoodIn wsX6_sealBlock wsX6_sum := goodIn_r _ [7, 1, 13, 14] (by decide +kernel) (by decide +kernel)
set_option maxRecDepth 20000 in
theorem gX6_sealBlock_X6_sum : GoodIn wsX6_sealBlock (wsV RX6 29 RX6 yX6_sum wsX6_sum) := goodIn_app (goodIn_of _ (by decide +kernel)) ggX6_sealBlock_X6_sum
set_option maxRecDepth 20000 in
theorem ggX6_sealBlock_X6_crc : GoodIn wsX6_sealBlock wsX6_crc := goodIn_r _ [11, 1, 12, 13, 14] (by decide +kernel) (by decide +kernel)
set_option maxRecDepth 20000 in
theorem gX6_sealBlock_X6_crc : GoodIn wsX6_sealBlock (wsV RX6 32 RX6 yX6_crc wsX6_crc) := goodIn_app (goodIn_of _ (by decide +kernel)) ggX6_sealBlock_X6_crc
theorem dX6_sealBlock_0 : decode cX6_sealBlock 0 = .ok (.iload_n 1, 1) := by decide +kernel
theorem dX6_sealBlock_1 : decode cX6_sealBlock 1 = .ok (.ifCond .ne 34, 3) := by decide +kernel
theorem dX6_sealBlock_4 : decode cX6_sealBlock 4 = .ok (.aload_n 0, 1) := by decide +kernel
theorem dX6_sealBlock_5 : decode cX6_sealBlock 5 = .ok (.getfield 9, 3) := by decide +kernel
theorem dX6_sealBlock_8 : decode cX6_sealBlock 8 = .ok (.aload_n 0, 1) := by decide +kernel
theorem dX6_sealBlock_9 : decode cX6_sealBlock 9 = .ok (.getfield 15, 3) := by decide +kernel
theorem dX6_sealBlock_12 : decode cX6_sealBlock 12 = .ok (.aload_n 0, 1) := by decide +kernel
theorem dX6_sealBlock_13 : decode cX6_sealBlock 13 = .ok (.aload_n 0, 1) := by decide +kernel
theorem dX6_sealBlock_14 : decode cX6_sealBlock 14 = .ok (.getfield 15, 3) := by decide +kernel
theorem dX6_sealBlock_17 : decode cX6_sealBlock 17 = .ok (.invokevirtual 29, 3) := by decide +kernel
theorem dX6_sealBlock_20 : decode cX6_sealBlock 20 = .ok (.i2b, 1) := by decide +kernel
theorem dX6_sealBlock_21 : decode cX6_sealBlock 21 = .ok (.bastore, 1) := by decide +kernel
theorem dX6_sealBlock_22 : decode cX6_sealBlock 22 = .ok (.aload_n 0, 1) := by decide +kernel
theorem dX6_sealBlock_23 : decode cX6_sealBlock 23 = .ok (.dup, 1) := by decide +kernel
theorem dX6_sealBlock_24 : decode cX6_sealBlock 24 = .ok (.getfield 15, 3) := by decide +kernel
theorem dX6_sealBlock_27 : decode cX6_sealBlock 27 = .ok (.iconst 1, 1) := by decide +kernel
theorem dX6_sealBlock_28 : decode cX6_sealBlock 28 = .ok (.iadd, 1) := by decide +kernel
theorem dX6_sealBlock_29 : decode cX6_sealBlock 29 = .ok (.putfield 15, 3) := by decide +kernel
theorem dX6_sealBlock_32 : decode cX6_sealBlock 32 = .ok (.goto 49, 3) := by decide +kernel
theorem dX6_sealBlock_35 : decode cX6_sealBlock 35 = .ok (.aload_n 0, 1) := by decide +kernel
theorem dX6_sealBlock_36 : decode cX6_sealBlock 36 = .ok (.aload_n 0, 1) := by decide +kernel
theorem dX6_sealBlock_37 : decode cX6_sealBlock 37 = .ok (.getfield 15, 3) := by decide +kernel
theorem dX6_sealBlock_40 : decode cX6_sealBlock 40 = .ok (.invokevirtual 32, 3) := by decide +kernel
theorem dX6_sealBlock_43 : decode cX6_sealBlock 43 = .ok (.istore_n 2, 1) := by decide +kernel
theorem dX6_sealBlock_44 : decode cX6_sealBlock 44 = .ok (.aload_n 0, 1) := by decide +kernel
theorem dX6_sealBlock_45 : decode cX6_sealBlock 45 = .ok (.getfield 9, 3) := by decide +kernel
theorem dX6_sealBlock_48 : decode cX6_sealBlock 48 = .ok (.aload_n 0, 1) := by decide +kernel
theorem dX6_sealBlock_49 : decode cX6_sealBlock 49 = .ok (.getfield 15, 3) := by decide +kernel
theorem dX6_sealBlock_52 : decode cX6_sealBlock 52 = .ok (.iload_n 2, 1) := by decide +kernel
theorem dX6_sealBlock_53 : decode cX6_sealBlock 53 = .ok (.bipush 8, 2) := by decide +kernel
theorem dX6_sealBlock_55 : decode cX6_sealBlock 55 = .ok (.ishr, 1) := by decide +kernel
theorem dX6_sealBlock_56 : decode cX6_sealBlock 56 = .ok (.i2b, 1) := by decide +kernel
theorem dX6_sealBlock_57 : decode cX6_sealBlock 57 = .ok (.bastore, 1) := by decide +kernel
theorem dX6_sealBlock_58 : decode cX6_sealBlock 58 = .ok (.aload_n 0, 1) := by decide +kernel
theorem dX6_sealBlock_59 : decode cX6_sealBlock 59 = .ok (.getfield 9, 3) := by decide +kernel
theorem dX6_sealBlock_62 : decode cX6_sealBlock 62 = .ok (.aload_n 0, 1) := by decide +kernel
theorem dX6_sealBlock_63 : decode cX6_sealBlock 63 = .ok (.getfield 15, 3) := by decide +kernel
theorem dX6_sealBlock_66 : decode cX6_sealBlock 66 = .ok (.iconst 1, 1) := by decide +kernel
theorem dX6_sealBlock_67 : decode cX6_sealBlock 67 = .ok (.iadd, 1) := by decide +kernel
theorem dX6_sealBlock_68 : decode cX6_sealBlock 68 = .ok (.iload_n 2, 1) := by decide +kernel
theorem dX6_sealBlock_69 : decode cX6_sealBlock 69 = .ok (.i2b, 1) := by decide +kernel
theorem dX6_sealBlock_70 : decode cX6_sealBlock 70 = .ok (.bastore, 1) := by decide +kernel
theorem dX6_sealBlock_71 : decode cX6_sealBlock 71 = .ok (.aload_n 0, 1) := by decide +kernel
theorem dX6_sealBlock_72 : decode cX6_sealBlock 72 = .ok (.dup, 1) := by decide +kernel
theorem dX6_sealBlock_73 : decode cX6_sealBlock 73 = .ok (.getfield 15, 3) := by decide +kernel
theorem dX6_sealBlock_76 : decode cX6_sealBlock 76 = .ok (.iconst 2, 1) := by decide +kernel
theorem dX6_sealBlock_77 : decode cX6_sealBlock 77 = .ok (.iadd, 1) := by decide +kernel
theorem dX6_sealBlock_78 : decode cX6_sealBlock 78 = .ok (.putfield 15, 3) := by decide +kernel
theorem dX6_sealBlock_81 : decode cX6_sealBlock 81 = .ok (.return_, 1) := by decide +kernel
set_option maxRecDepth 20000 in
theorem ggX6_dataLength_X6_get : GoodIn wsX6_dataLength wsX6_get := goodIn_r _ [5, 6, 7, 8] (by decide +kernel) (by decide +kernel)
set_option maxRecDepth 20000 in
theorem gX6_dataLength_X6_get : GoodIn wsX6_dataLength (wsV RX6 19 RX6 yX6_get wsX6_get) := goodIn_app (goodIn_of _ (by decide +kernel)) ggX6_dataLength_X6_get
theorem dX6_dataLength_0 : decode cX6_dataLength 0 = .ok (.aload_n 0, 1) := by decide +kernel
theorem dX6_dataLength_1 : decode cX6_dataLength 1 = .ok (.iconst 0, 1) := by decide +kernel
theorem dX6_dataLength_2 : decode cX6_dataLength 2 = .ok (.invokevirtual 19, 3) := by decide +kernel
theorem dX6_dataLength_5 : decode cX6_dataLength 5 = .ok (.lookupswitch 35 #[(1, 27), (2, 31)], 27) := by decide +kernel
theorem dX6_dataLength_32 : decode cX6_dataLength 32 = .ok (.sipush 128, 3) := by decide +kernel
theorem dX6_dataLength_35 : decode cX6_dataLength 35 = .ok (.ireturn, 1) := by decide +kernel
theorem dX6_dataLength_36 : decode cX6_dataLength 36 = .ok (.sipush 1024, 3) := by decide +kernel
theorem dX6_dataLength_39 : decode cX6_dataLength 39 = .ok (.ireturn, 1) := by decide +kernel
theorem dX6_dataLength_40 : decode cX6_dataLength 40 = .ok (.iconst 0, 1) := by decide +kernel
theorem dX6_dataLength_41 : decode cX6_dataLength 41 = .ok (.ireturn, 1) := by decide +kernel
set_option maxRecDepth 20000 in
theorem ggX6_isRightBlock_X6_dataLength : GoodIn wsX6_isRightBlock wsX6_dataLength := goodIn_r _ [6, 7, 8, 9, 5, 10, 11, 21, 22] (by decide +kernel) (by decide +kernel)
set_option maxRecDepth 20000 in
theorem gX6_isRightBlock_X6_dataLength : GoodIn wsX6_isRightBlock (wsV RX6 35 RX6 yX6_dataLength wsX6_dataLength) := goodIn_app (goodIn_of _ (by decide +kernel)) ggX6_isRightBlock_X6_dataLength
set_option maxRecDepth 20000 in
theorem ggX6_isRightBlock_X6_get : GoodIn wsX6_isRightBlock wsX6_get := goodIn_r _ [10, 11, 21, 22] (by decide +kernel) (by decide +kernel)
set_option maxRecDepth 20000 in
theorem gX6_isRightBlock_X6_get : GoodIn wsX6_isRightBlock (wsV RX6 19 RX6 yX6_get wsX6_get) := goodIn_app (goodIn_of _ (by decide +kernel)) ggX6_isRightBlock_X6_get
set_option maxRecDepth 20000 in
theorem ggX6_isRightBlock_X6_sum : GoodIn wsX6_isRightBlock wsX6_sum := goodIn_r _ [15, 11, 21, 22] (by decide +kernel) (by decide +kernel)
set_option maxRecDepth 20000 in
theorem gX6_isRightBlock_X6_sum : GoodIn wsX6_isRightBlock (wsV RX6 29 RX6 yX6_sum wsX6_sum) := goodIn_app (goodIn_of _ (by decide +kernel)) ggX6_isRightBlock_X6_sum
set_option maxRecDepth 20000 in
theorem ggX6_isRightBlock_X6_crc : GoodIn wsX6_isRightBlock wsX6_crc := goodIn_r _ [19, 11, 20, 21, 22] (by decide +kernel) (by decide +kernel)
set_option maxRecDepth 20000 in
theorem gX6_isRightBlock_X6_crc : GoodIn wsX6_isRightBlock (wsV RX6 32 RX6 yX6_crc wsX6_crc) := goodIn_app (goodIn_of _ (by decide +kernel)) ggX6_isRightBlock_X6_crc
theorem dX6_isRightBlock_0 : decode cX6_isRightBlock 0 = .ok (.iconst 3, 1) := by decide +kernel
theorem dX6_isRightBlock_1 : decode cX6_isRightBlock 1 = .ok (.aload_n 0, 1) := by decide +kernel
theorem dX6_isRightBlock_2 : decode cX6_isRightBlock 2 = .ok (.invokevirtual 35, 3) := by decide +kernel
theorem dX6_isRightBlock_5 : decode cX6_isRightBlock 5 = .ok (.iadd, 1) := by decide +kernel
theorem dX6_isRightBlock_6 : decode cX6_isRightBlock 6 = .ok (.istore_n 2, 1) := by decide +kernel
theorem dX6_isRightBlock_7 : decode cX6_isRightBlock 7 = .ok (.iload_n 1, 1) := by decide +kernel
theorem dX6_isRightBlock_8 : decode cX6_isRightBlock 8 = .ok (.ifCond .ne 7, 3) := by decide +kernel
theorem dX6_isRightBlock_11 : decode cX6_isRightBlock 11 = .ok (.iconst 1, 1) := by decide +kernel
theorem dX6_isRightBlock_12 : decode cX6_isRightBlock 12 = .ok (.goto 4, 3) := by decide +kernel
theorem dX6_isRightBlock_15 : decode cX6_isRightBlock 15 = .ok (.iconst 2, 1) := by decide +kernel
theorem dX6_isRightBlock_16 : decode cX6_isRightBlock 16 = .ok (.istore_n 3, 1) := by decide +kernel
theorem dX6_isRightBlock_17 : decode cX6_isRightBlock 17 = .ok (.iload_n 2, 1) := by decide +kernel
theorem dX6_isRightBlock_18 : decode cX6_isRightBlock 18 = .ok (.iconst 3, 1) := by decide +kernel
theorem dX6_isRightBlock_19 : decode cX6_isRightBlock 19 = .ok (.if_icmp .eq 30, 3) := by decide +kernel
theorem dX6_isRightBlock_22 : decode cX6_isRightBlock 22 = .ok (.aload_n 0, 1) := by decide +kernel
theorem dX6_isRightBlock_23 : decode cX6_isRightBlock 23 = .ok (.getfield 15, 3) := by decide +kernel
theorem dX6_isRightBlock_26 : decode cX6_isRightBlock 26 = .ok (.iload_n 2, 1) := by decide +kernel
theorem dX6_isRightBlock_27 : decode cX6_isRightBlock 27 = .ok (.iload_n 3, 1) := by decide +kernel
theorem dX6_isRightBlock_28 : decode cX6_isRightBlock 28 = .ok (.iadd, 1) := by decide +kernel
theorem dX6_isRightBlock_29 : decode cX6_isRightBlock 29 = .ok (.if_icmp .ne 20, 3) := by decide +kernel
theorem dX6_isRightBlock_32 : decode cX6_isRightBlock 32 = .ok (.aload_n 0, 1) := by decide +kernel
theorem dX6_isRightBlock_33 : decode cX6_isRightBlock 33 = .ok (.iconst 1, 1) := by decide +kernel
theorem dX6_isRightBlock_34 : decode cX6_isRightBlock 34 = .ok (.invokevirtual 19, 3) := by decide +kernel
theorem dX6_isRightBlock_37 : decode cX6_isRightBlock 37 = .ok (.aload_n 0, 1) := by decide +kernel
theorem dX6_isRightBlock_38 : decode cX6_isRightBlock 38 = .ok (.iconst 2, 1) := by decide +kernel
theorem dX6_isRightBlock_39 : decode cX6_isRightBlock 39 = .ok (.invokevirtual 19, 3) := by decide +kernel
theorem dX6_isRightBlock_42 : decode cX6_isRightBlock 42 = .ok (.iadd, 1) := by decide +kernel
theorem dX6_isRightBlock_43 : decode cX6_isRightBlock 43 = .ok (.sipush 255, 3) := by decide +kernel
theorem dX6_isRightBlock_46 : decode cX6_isRightBlock 46 = .ok (.if_icmp .eq 5, 3) := by decide +kernel
theorem dX6_isRightBlock_49 : decode cX6_isRightBlock 49 = .ok (.iconst 0, 1) := by decide +kernel
theorem dX6_isRightBlock_50 : decode cX6_isRightBlock 50 = .ok (.ireturn, 1) := by decide +kernel
theorem dX6_isRightBlock_51 : decode cX6_isRightBlock 51 = .ok (.iload_n 1, 1) := by decide +kernel
theorem dX6_isRightBlock_52 : decode cX6_isRightBlock 52 = .ok (.ifCond .ne 22, 3) := by decide +kernel
theorem dX6_isRightBlock_55 : decode cX6_isRightBlock 55 = .ok (.aload_n 0, 1) := by decide +kernel
theorem dX6_isRightBlock_56 : decode cX6_isRightBlock 56 = .ok (.iload_n 2, 1) := by decide +kernel
theorem dX6_isRightBlock_57 : decode cX6_isRightBlock 57 = .ok (.invokevirtual 19, 3) := by decide +kernel
theorem dX6_isRightBlock_60 : decode cX6_isRightBlock 60 = .ok (.aload_n 0, 1) := by decide +kernel
theorem dX6_isRightBlock_61 : decode cX6_isRightBlock 61 = .ok (.iload_n 2, 1) := by decide +kernel
theorem dX6_isRightBlock_62 : decode cX6_isRightBlock 62 = .ok (.invokevirtual 29, 3) := by decide +kernel
theorem dX6_isRightBlock_65 : decode cX6_isRightBlock 65 = .ok (.if_icmp .ne 7, 3) := by decide +kernel
theorem dX6_isRightBlock_68 : decode cX6_isRightBlock 68 = .ok (.iconst 1, 1) := by decide +kernel
theorem dX6_isRightBlock_69 : decode cX6_isRightBlock 69 = .ok (.goto 4, 3) := by decide +kernel
theorem dX6_isRightBlock_72 : decode cX6_isRightBlock 72 = .ok (.iconst 0, 1) := by decide +kernel
theorem dX6_isRightBlock_73 : decode cX6_isRightBlock 73 = .ok (.ireturn, 1) := by decide +kernel
theorem dX6_isRightBlock_74 : decode cX6_isRightBlock 74 = .ok (.aload_n 0, 1) := by decide +kernel
theorem dX6_isRightBlock_75 : decode cX6_isRightBlock 75 = .ok (.iload_n 2, 1) := by decide +kernel
theorem dX6_isRightBlock_76 : decode cX6_isRightBlock 76 = .ok (.invokevirtual 19, 3) := by decide +kernel
theorem dX6_isRightBlock_79 : decode cX6_isRightBlock 79 = .ok (.bipush 8, 2) := by decide +kernel
theorem dX6_isRightBlock_81 : decode cX6_isRightBlock 81 = .ok (.ishl, 1) := by decide +kernel
theorem dX6_isRightBlock_82 : decode cX6_isRightBlock 82 = .ok (.aload_n 0, 1) := by decide +kernel
theorem dX6_isRightBlock_83 : decode cX6_isRightBlock 83 = .ok (.iload_n 2, 1) := by decide +kernel
theorem dX6_isRightBlock_84 : decode cX6_isRightBlock 84 = .ok (.iconst 1, 1) := by decide +kernel
theorem dX6_isRightBlock_85 : decode cX6_isRightBlock 85 = .ok (.iadd, 1) := by decide +kernel
theorem dX6_isRightBlock_86 : decode cX6_isRightBlock 86 = .ok (.invokevirtual 19, 3) := by decide +kernel
theorem dX6_isRightBlock_89 : decode cX6_isRightBlock 89 = .ok (.ior, 1) := by decide +kernel
theorem dX6_isRightBlock_90 : decode cX6_isRightBlock 90 = .ok (.aload_n 0, 1) := by decide +kernel
theorem dX6_isRightBlock_91 : decode cX6_isRightBlock 91 = .ok (.iload_n 2, 1) := by decide +kernel
theorem dX6_isRightBlock_92 : decode cX6_isRightBlock 92 = .ok (.invokevirtual 32, 3) := by decide +kernel
theorem dX6_isRightBlock_95 : decode cX6_isRightBlock 95 = .ok (.if_icmp .ne 7, 3) := by decide +kernel
theorem dX6_isRightBlock_98 : decode cX6_isRightBlock 98 = .ok (.iconst 1, 1) := by decide +kernel
theorem dX6_isRightBlock_99 : decode cX6_isRightBlock 99 = .ok (.goto 4, 3) := by decide +kernel
theorem dX6_isRightBlock_102 : decode cX6_isRightBlock 102 = .ok (.iconst 0, 1) := by decide +kernel
theorem dX6_isRightBlock_103 : decode cX6_isRightBlock 103 = .ok (.ireturn, 1) := by decide +kernel
theorem dX6_sum_0 : decode cX6_sum 0 = .ok (.iconst 0, 1) := by decide +kernel
theorem dX6_sum_1 : decode cX6_sum 1 = .ok (.istore_n 2, 1) := by decide +kernel
theorem dX6_sum_2 : decode cX6_sum 2 = .ok (.iconst 3, 1) := by decide +kernel
theorem dX6_sum_3 : decode cX6_sum 3 = .ok (.istore_n 3, 1) := by decide +kernel
theorem dX6_sum_4 : decode cX6_sum 4 = .ok (.iload_n 3, 1) := by decide +kernel
theorem dX6_sum_5 : decode cX6_sum 5 = .ok (.iload_n 1, 1) := by decide +kernel
theorem dX6_sum_6 : decode cX6_sum 6 = .ok (.if_icmp .ge 18, 3) := by decide +kernel
theorem dX6_sum_9 : decode cX6_sum 9 = .ok (.iload_n 2, 1) := by decide +kernel
theorem dX6_sum_10 : decode cX6_sum 10 = .ok (.aload_n 0, 1) := by decide +kernel
theorem dX6_sum_11 : decode cX6_sum 11 = .ok (.getfield 9, 3) := by decide +kernel
theorem dX6_sum_14 : decode cX6_sum 14 = .ok (.iload_n 3, 1) := by decide +kernel
theorem dX6_sum_15 : decode cX6_sum 15 = .ok (.baload, 1) := by decide +kernel
theorem dX6_sum_16 : decode cX6_sum 16 = .ok (.iadd, 1) := by decide +kernel
theorem dX6_sum_17 : decode cX6_sum 17 = .ok (.istore_n 2, 1) := by decide +kernel
theorem dX6_sum_18 : decode cX6_sum 18 = .ok (.iinc 3 1, 3) := by decide +kernel
theorem dX6_sum_21 : decode cX6_sum 21 = .ok (.goto (-17), 3) := by decide +kernel
theorem dX6_sum_24 : decode cX6_sum 24 = .ok (.iload_n 2, 1) := by decide +kernel
theorem dX6_sum_25 : decode cX6_sum 25 = .ok (.sipush 255, 3) := by decide +kernel
theorem dX6_sum_28 : decode cX6_sum 28 = .ok (.iand, 1) := by decide +kernel
theorem dX6_sum_29 : decode cX6_sum 29 = .ok (.ireturn, 1) := by decide +kernel
theorem dX6_crc_0 : decode cX6_crc 0 = .ok (.iconst 0, 1) := by decide +kernel
theorem dX6_crc_1 : decode cX6_crc 1 = .ok (.istore_n 2, 1) := by decide +kernel
theorem dX6_crc_2 : decode cX6_crc 2 = .ok (.iconst 3, 1) := by decide +kernel
theorem dX6_crc_3 : decode cX6_crc 3 = .ok (.istore_n 3, 1) := by decide +kernel
theorem dX6_crc_4 : decode cX6_crc 4 = .ok (.iload_n 3, 1) := by decide +kernel
theorem dX6_crc_5 : decode cX6_crc 5 = .ok (.iload_n 1, 1) := by decide +kernel
theorem dX6_crc_6 : decode cX6_crc 6 = .ok (.if_icmp .ge 57, 3) := by decide +kernel
theorem dX6_crc_9 : decode cX6_crc 9 = .ok (.iload_n 2, 1) := by decide +kernel
theorem dX6_crc_10 : decode cX6_crc 10 = .ok (.bipush 8, 2) := by decide +kernel
theorem dX6_crc_12 : decode cX6_crc 12 = .ok (.ishr, 1) := by decide +kernel
theorem dX6_crc_13 : decode cX6_crc 13 = .ok (.aload_n 0, 1) := by decide +kernel
theorem dX6_crc_14 : decode cX6_crc 14 = .ok (.getfield 9, 3) := by decide +kernel
theorem dX6_crc_17 : decode cX6_crc 17 = .ok (.iload_n 3, 1) := by decide +kernel
theorem dX6_crc_18 : decode cX6_crc 18 = .ok (.baload, 1) := by decide +kernel
theorem dX6_crc_19 : decode cX6_crc 19 = .ok (.sipush 255, 3) := by decide +kernel
theorem dX6_crc_22 : decode cX6_crc 22 = .ok (.iand, 1) := by decide +kernel
theorem dX6_crc_23 : decode cX6_crc 23 = .ok (.ixor, 1) := by decide +kernel
theorem dX6_crc_24 : decode cX6_crc 24 = .ok (.istore 4, 2) := by decide +kernel
theorem dX6_crc_26 : decode cX6_crc 26 = .ok (.iload 4, 2) := by decide +kernel
theorem dX6_crc_28 : decode cX6_crc 28 = .ok (.iload 4, 2) := by decide +kernel
theorem dX6_crc_30 : decode cX6_crc 30 = .ok (.iconst 4, 1) := by decide +kernel
theorem dX6_crc_31 : decode cX6_crc 31 = .ok (.ishr, 1) := by decide +kernel
theorem dX6_crc_32 : decode cX6_crc 32 = .ok (.ixor, 1) := by decide +kernel
theorem dX6_crc_33 : decode cX6_crc 33 = .ok (.istore 4, 2) := by decide +kernel
theorem dX6_crc_35 : decode cX6_crc 35 = .ok (.iload_n 2, 1) := by decide +kernel
theorem dX6_crc_36 : decode cX6_crc 36 = .ok (.bipush 8, 2) := by decide +kernel
theorem dX6_crc_38 : decode cX6_crc 38 = .ok (.ishl, 1) := by decide +kernel
theorem dX6_crc_39 : decode cX6_crc 39 = .ok (.iload 4, 2) := by decide +kernel
theorem dX6_crc_41 : decode cX6_crc 41 = .ok (.bipush 12, 2) := by decide +kernel
theorem dX6_crc_43 : decode cX6_crc 43 = .ok (.ishl, 1) := by decide +kernel
theorem dX6_crc_44 : decode cX6_crc 44 = .ok (.ixor, 1) := by decide +kernel
theorem dX6_crc_45 : decode cX6_crc 45 = .ok (.iload 4, 2) := by decide +kernel
theorem dX6_crc_47 : decode cX6_crc 47 = .ok (.iconst 5, 1) := by decide +kernel
theorem dX6_crc_48 : decode cX6_crc 48 = .ok (.ishl, 1) := by decide +kernel
theorem dX6_crc_49 : decode cX6_crc 49 = .ok (.ixor, 1) := by decide +kernel
theorem dX6_crc_50 : decode cX6_crc 50 = .ok (.iload 4, 2) := by decide +kernel
theorem dX6_crc_52 : decode cX6_crc 52 = .ok (.ixor, 1) := by decide +kernel
theorem dX6_crc_53 : decode cX6_crc 53 = .ok (.ldc 39, 2) := by decide +kernel
theorem dX6_crc_55 : decode cX6_crc 55 = .ok (.iand, 1) := by decide +kernel
theorem dX6_crc_56 : decode cX6_crc 56 = .ok (.istore_n 2, 1) := by decide +kernel
theorem dX6_crc_57 : decode cX6_crc 57 = .ok (.iinc 3 1, 3) := by decide +kernel
theorem dX6_crc_60 : decode cX6_crc 60 = .ok (.goto (-56), 3) := by decide +kernel
theorem dX6_crc_63 : decode cX6_crc 63 = .ok (.iload_n 2, 1) := by decide +kernel
theorem dX6_crc_64 : decode cX6_crc 64 = .ok (.ireturn, 1) := by decide +kernel
set_option maxRecDepth 20000 in
theorem ggX7_init_X4_init : GoodIn wsX7_init wsX4_init := goodIn_r _ [21, 22, 2, 3, 23, 24, 56, 57] (by decide +kernel) (by decide +kernel)
set_option maxRecDepth 20000 in
theorem gX7_init_X4_init_n11 : GoodIn wsX7_init (wsX4_init) := ggX7_init_X4_init
set_option maxRecDepth 20000 in
theorem ggX7_init_X6_init : GoodIn wsX7_init wsX6_init := goodIn_r _ [26, 27, 2, 3, 23, 28, 67, 68] (by decide +kernel) (by decide +kernel)
set_option maxRecDepth 20000 in
theorem gX7_init_X6_init_n18 : GoodIn wsX7_init (wsX6_init) := ggX7_init_X6_init
set_option maxRecDepth 20000 in
theorem ggX7_init_X1_init : GoodIn wsX7_init wsX1_init := goodIn_r _ [30, 31, 32, 33, 34, 35, 36, 37, 38, 39, 40, 2, 3, 41, 42, 43, 44, 23, 45, 46, 47, 48, 49, 50, 88, 89, 90, 91, 92, 93, 69, 70, 71, 72, 73, 74, 75, 76, 77, 78] (by decide +kernel) (by decide +kernel)
set_option maxRecDepth 20000 in
theorem gX7_init_X1_init_n25 : GoodIn wsX7_init (wsX1_init) := ggX7_init_X1_init
set_option maxRecDepth 20000 in
theorem ggX7_init_X0_init : GoodIn wsX7_init wsX0_init := goodIn_r _ [52, 53, 32, 33, 54, 37, 38, 39, 40, 2, 3, 55, 42, 43, 44, 23, 45, 46, 47, 48, 49, 50, 88, 89, 90, 91, 92, 93, 79, 80, 81, 82, 83, 84, 85, 86, 87] (by decide +kernel) (by decide +kernel)
set_option maxRecDepth 20000 in
theorem gX7_init_X0_init_n32 : GoodIn wsX7_init (wsX0_init) := ggX7_init_X0_init
theorem dX7_init_0 : decode cX7_init 0 = .ok (.aload_n 0, 1) := by decide +kernel
theorem dX7_init_1 : decode cX7_init 1 = .ok (.invokespecial 3, 3) := by decide +kernel
theorem dX7_init_4 : decode cX7_init 4 = .ok (.aload_n 0, 1) := by decide +kernel
theorem dX7_init_5 : decode cX7_init 5 = .ok (.new 9, 3) := by decide +kernel
theorem dX7_init_8 : decode cX7_init 8 = .ok (.dup, 1) := by decide +kernel
theorem dX7_init_9 : decode cX7_init 9 = .ok (.invokespecial 11, 3) := by decide +kernel
theorem dX7_init_12 : decode cX7_init 12 = .ok (.putfield 12, 3) := by decide +kernel
theorem dX7_init_15 : decode cX7_init 15 = .ok (.aload_n 0, 1) := by decide +kernel
theorem dX7_init_16 : decode cX7_init 16 = .ok (.new 16, 3) := by decide +kernel
theorem dX7_init_19 : decode cX7_init 19 = .ok (.dup, 1) := by decide +kernel
theorem dX7_init_20 : decode cX7_init 20 = .ok (.invokespecial 18, 3) := by decide +kernel
theorem dX7_init_23 : decode cX7_init 23 = .ok (.putfield 19, 3) := by decide +kernel
theorem dX7_init_26 : decode cX7_init 26 = .ok (.aload_n 0, 1) := by decide +kernel
theorem dX7_init_27 : decode cX7_init 27 = .ok (.new 23, 3) := by decide +kernel
theorem dX7_init_30 : decode cX7_init 30 = .ok (.dup, 1) := by decide +kernel
theorem dX7_init_31 : decode cX7_init 31 = .ok (.invokespecial 25, 3) := by decide +kernel
theorem dX7_init_34 : decode cX7_init 34 = .ok (.putfield 26, 3) := by decide +kernel
theorem dX7_init_37 : decode cX7_init 37 = .ok (.aload_n 0, 1) := by decide +kernel
theorem dX7_init_38 : decode cX7_init 38 = .ok (.new 30, 3) := by decide +kernel
theorem dX7_init_41 : decode cX7_init 41 = .ok (.dup, 1) := by decide +kernel
theorem dX7_init_42 : decode cX7_init 42 = .ok (.invokespecial 32, 3) := by decide +kernel
theorem dX7_init_45 : decode cX7_init 45 = .ok (.putfield 33, 3) := by decide +kernel
theorem dX7_init_48 : decode cX7_init 48 = .ok (.return_, 1) := by decide +kernel
set_option maxRecDepth 20000 in
theorem ggX7_feed_X4_append : GoodIn wsX7_feed wsX4_append := goodIn_r _ [7, 8, 9, 19, 20] (by decide +kernel) (by decide +kernel)
set_option maxRecDepth 20000 in
theorem gX7_feed_X4_append : GoodIn wsX7_feed (wsV RX7 41 RX4 yX4_append wsX4_append) := goodIn_app (goodIn_of _ (by decide +kernel)) ggX7_feed_X4_append
theorem dX7_feed_0 : decode cX7_feed 0 = .ok (.aload_n 0, 1) := by decide +kernel
theorem dX7_feed_1 : decode cX7_feed 1 = .ok (.getfield 12, 3) := by decide +kernel
theorem dX7_feed_4 : decode cX7_feed 4 = .ok (.getfield 37, 3) := by decide +kernel
theorem dX7_feed_7 : decode cX7_feed 7 = .ok (.bipush 20, 2) := by decide +kernel
theorem dX7_feed_9 : decode cX7_feed 9 = .ok (.iadd, 1) := by decide +kernel
theorem dX7_feed_10 : decode cX7_feed 10 = .ok (.sipush 3100, 3) := by decide +kernel
theorem dX7_feed_13 : decode cX7_feed 13 = .ok (.if_icmp .le 5, 3) := by decide +kernel
theorem dX7_feed_16 : decode cX7_feed 16 = .ok (.iconst 0, 1) := by decide +kernel
theorem dX7_feed_17 : decode cX7_feed 17 = .ok (.ireturn, 1) := by decide +kernel
theorem dX7_feed_18 : decode cX7_feed 18 = .ok (.aload_n 0, 1) := by decide +kernel
theorem dX7_feed_19 : decode cX7_feed 19 = .ok (.getfield 12, 3) := by decide +kernel
theorem dX7_feed_22 : decode cX7_feed 22 = .ok (.iload_n 1, 1) := by decide +kernel
theorem dX7_feed_23 : decode cX7_feed 23 = .ok (.invokevirtual 41, 3) := by decide +kernel
theorem dX7_feed_26 : decode cX7_feed 26 = .ok (.aload_n 0, 1) := by decide +kernel
theorem dX7_feed_27 : decode cX7_feed 27 = .ok (.getfield 12, 3) := by decide +kernel
theorem dX7_feed_30 : decode cX7_feed 30 = .ok (.iload_n 2, 1) := by decide +kernel
theorem dX7_feed_31 : decode cX7_feed 31 = .ok (.invokevirtual 41, 3) := by decide +kernel
theorem dX7_feed_34 : decode cX7_feed 34 = .ok (.aload_n 0, 1) := by decide +kernel
theorem dX7_feed_35 : decode cX7_feed 35 = .ok (.getfield 12, 3) := by decide +kernel
theorem dX7_feed_38 : decode cX7_feed 38 = .ok (.iload_n 3, 1) := by decide +kernel
theorem dX7_feed_39 : decode cX7_feed 39 = .ok (.invokevirtual 41, 3) := by decide +kernel
theorem dX7_feed_42 : decode cX7_feed 42 = .ok (.aload_n 0, 1) := by decide +kernel
theorem dX7_feed_43 : decode cX7_feed 43 = .ok (.getfield 12, 3) := by decide +kernel
theorem dX7_feed_46 : decode cX7_feed 46 = .ok (.iload 4, 2) := by decide +kernel
theorem dX7_feed_48 : decode cX7_feed 48 = .ok (.invokevirtual 41, 3) := by decide +kernel
theorem dX7_feed_51 : decode cX7_feed 51 = .ok (.aload_n 0, 1) := by decide +kernel
theorem dX7_feed_52 : decode cX7_feed 52 = .ok (.getfield 12, 3) := by decide +kernel
theorem dX7_feed_55 : decode cX7_feed 55 = .ok (.iload 5, 2) := by decide +kernel
theorem dX7_feed_57 : decode cX7_feed 57 = .ok (.invokevirtual 41, 3) := by decide +kernel
theorem dX7_feed_60 : decode cX7_feed 60 = .ok (.iconst 1, 1) := by decide +kernel
theorem dX7_feed_61 : decode cX7_feed 61 = .ok (.ireturn, 1) := by decide +kernel
theorem dX7_end_0 : decode cX7_end 0 = .ok (.iload_n 1, 1) := by decide +kernel
theorem dX7_end_1 : decode cX7_end 1 = .ok (.ifCond .lt 14, 3) := by decide +kernel
theorem dX7_end_4 : decode cX7_end 4 = .ok (.iload_n 1, 1) := by decide +kernel
theorem dX7_end_5 : decode cX7_end 5 = .ok (.aload_n 0, 1) := by decide +kernel
theorem dX7_end_6 : decode cX7_end 6 = .ok (.getfield 12, 3) := by decide +kernel
theorem dX7_end_9 : decode cX7_end 9 = .ok (.getfield 37, 3) := by decide +kernel
theorem dX7_end_12 : decode cX7_end 12 = .ok (.if_icmp .le 5, 3) := by decide +kernel
theorem dX7_end_15 : decode cX7_end 15 = .ok (.iconst 0, 1) := by decide +kernel
theorem dX7_end_16 : decode cX7_end 16 = .ok (.ireturn, 1) := by decide +kernel
theorem dX7_end_17 : decode cX7_end 17 = .ok (.aload_n 0, 1) := by decide +kernel
theorem dX7_end_18 : decode cX7_end 18 = .ok (.getfield 12, 3) := by decide +kernel
theorem dX7_end_21 : decode cX7_end 21 = .ok (.iload_n 1, 1) := by decide +kernel
theorem dX7_end_22 : decode cX7_end 22 = .ok (.putfield 37, 3) := by decide +kernel
theorem dX7_end_25 : decode cX7_end 25 = .ok (.iconst 1, 1) := by decide +kernel
theorem dX7_end_26 : decode cX7_end 26 = .ok (.ireturn, 1) := by decide +kernel
set_option maxRecDepth 20000 in
theorem ggX7_file_X4_nameLength : GoodIn wsX7_file wsX4_nameLength := goodIn_r _ [11, 12, 13, 57, 58] (by decide +kernel) (by decide +kernel)
set_option maxRecDepth 20000 in
theorem gX7_file_X4_nameLength : GoodIn wsX7_file (wsV RX7 45 RX4 yX4_nameLength wsX4_nameLength) := goodIn_app (goodIn_of _ (by decide +kernel)) ggX7_file_X4_nameLength
set_option maxRecDepth 20000 in
theorem ggX7_file_X7_mayAddFile : GoodIn wsX7_file wsX7_mayAddFile := goodIn_r _ [18, 3, 4, 6, 19, 20, 21, 17, 22, 23, 24, 48, 49, 50, 51, 52, 53, 54, 55, 56, 59, 60, 61, 62, 63, 64, 65, 66, 67, 68, 69, 70, 71, 72, 73, 74, 75, 76] (by decide +kernel) (by decide +kernel)
set_option maxRecDepth 20000 in
theorem gX7_file_X7_mayAddFile : GoodIn wsX7_file (wsV RX7 49 RX7 yX7_mayAddFile wsX7_mayAddFile) := goodIn_app (goodIn_of _ (by decide +kernel)) ggX7_file_X7_mayAddFile
set_option maxRecDepth 20000 in
theorem ggX7_file_X2_open : GoodIn wsX7_file wsX2_open := goodIn_r _ [29, 30, 31, 32, 33, 69, 70, 71, 72, 73, 74] (by decide +kernel) (by decide +kernel)
set_option maxRecDepth 20000 in
theorem gX7_file_X2_open : GoodIn wsX7_file (wsV RX7 57 RX2 yX2_open wsX2_open) := goodIn_app (goodIn_of _ (by decide +kernel)) ggX7_file_X2_open
set_option maxRecDepth 20000 in
theorem ggX7_file_X2_nameLast : GoodIn wsX7_file wsX2_nameLast := goodIn_r _ [37, 30, 38, 39, 40, 41, 42, 33, 69, 70, 71, 72, 73, 74] (by decide +kernel) (by decide +kernel)
set_option maxRecDepth 20000 in
theorem gX7_file_X2_nameLast : GoodIn wsX7_file (wsV RX7 66 RX2 yX2_nameLast wsX2_nameLast) := goodIn_app (goodIn_of _ (by decide +kernel)) ggX7_file_X2_nameLast
set_option maxRecDepth 20000 in
theorem ggX7_file_X2_extendLast : GoodIn wsX7_file wsX2_extendLast := goodIn_r _ [46, 30, 31, 32, 47, 39, 40, 41, 42, 69, 70, 71, 72, 73, 74] (by decide +kernel) (by decide +kernel)
set_option maxRecDepth 20000 in
theorem gX7_file_X2_extendLast : GoodIn wsX7_file (wsV RX7 70 RX2 yX2_extendLast wsX2_extendLast) := goodIn_app (goodIn_of _ (by decide +kernel)) ggX7_file_X2_extendLast
theorem dX7_file_0 : decode cX7_file 0 = .ok (.aload_n 0, 1) := by decide +kernel
theorem dX7_file_1 : decode cX7_file 1 = .ok (.getfield 12, 3) := by decide +kernel
theorem dX7_file_4 : decode cX7_file 4 = .ok (.invokevirtual 45, 3) := by decide +kernel
theorem dX7_file_7 : decode cX7_file 7 = .ok (.istore_n 1, 1) := by decide +kernel
theorem dX7_file_8 : decode cX7_file 8 = .ok (.iload_n 1, 1) := by decide +kernel
theorem dX7_file_9 : decode cX7_file 9 = .ok (.iconst 1, 1) := by decide +kernel
theorem dX7_file_10 : decode cX7_file 10 = .ok (.iadd, 1) := by decide +kernel
theorem dX7_file_11 : decode cX7_file 11 = .ok (.istore_n 2, 1) := by decide +kernel
theorem dX7_file_12 : decode cX7_file 12 = .ok (.aload_n 0, 1) := by decide +kernel
theorem dX7_file_13 : decode cX7_file 13 = .ok (.getfield 12, 3) := by decide +kernel
theorem dX7_file_16 : decode cX7_file 16 = .ok (.getfield 37, 3) := by decide +kernel
theorem dX7_file_19 : decode cX7_file 19 = .ok (.iload_n 2, 1) := by decide +kernel
theorem dX7_file_20 : decode cX7_file 20 = .ok (.isub, 1) := by decide +kernel
theorem dX7_file_21 : decode cX7_file 21 = .ok (.istore_n 3, 1) := by decide +kernel
theorem dX7_file_22 : decode cX7_file 22 = .ok (.iload_n 1, 1) := by decide +kernel
theorem dX7_file_23 : decode cX7_file 23 = .ok (.iconst (-1), 1) := by decide +kernel
theorem dX7_file_24 : decode cX7_file 24 = .ok (.if_icmp .eq 17, 3) := by decide +kernel
theorem dX7_file_27 : decode cX7_file 27 = .ok (.iload_n 3, 1) := by decide +kernel
theorem dX7_file_28 : decode cX7_file 28 = .ok (.sipush 3000, 3) := by decide +kernel
theorem dX7_file_31 : decode cX7_file 31 = .ok (.if_icmp .gt 10, 3) := by decide +kernel
theorem dX7_file_34 : decode cX7_file 34 = .ok (.aload_n 0, 1) := by decide +kernel
theorem dX7_file_35 : decode cX7_file 35 = .ok (.invokevirtual 49, 3) := by decide +kernel
theorem dX7_file_38 : decode cX7_file 38 = .ok (.ifCond .ne 5, 3) := by decide +kernel
theorem dX7_file_41 : decode cX7_file 41 = .ok (.iconst (-1), 1) := by decide +kernel
theorem dX7_file_42 : decode cX7_file 42 = .ok (.ireturn, 1) := by decide +kernel
theorem dX7_file_43 : decode cX7_file 43 = .ok (.aload_n 0, 1) := by decide +kernel
theorem dX7_file_44 : decode cX7_file 44 = .ok (.getfield 26, 3) := by decide +kernel
theorem dX7_file_47 : decode cX7_file 47 = .ok (.getfield 53, 3) := by decide +kernel
theorem dX7_file_50 : decode cX7_file 50 = .ok (.astore 4, 2) := by decide +kernel
theorem dX7_file_52 : decode cX7_file 52 = .ok (.aload 4, 2) := by decide +kernel
theorem dX7_file_54 : decode cX7_file 54 = .ok (.invokevirtual 57, 3) := by decide +kernel
theorem dX7_file_57 : decode cX7_file 57 = .ok (.aload 4, 2) := by decide +kernel
theorem dX7_file_59 : decode cX7_file 59 = .ok (.aload_n 0, 1) := by decide +kernel
theorem dX7_file_60 : decode cX7_file 60 = .ok (.getfield 12, 3) := by decide +kernel
theorem dX7_file_63 : decode cX7_file 63 = .ok (.getfield 62, 3) := by decide +kernel
theorem dX7_file_66 : decode cX7_file 66 = .ok (.iconst 0, 1) := by decide +kernel
theorem dX7_file_67 : decode cX7_file 67 = .ok (.iload_n 1, 1) := by decide +kernel
theorem dX7_file_68 : decode cX7_file 68 = .ok (.invokevirtual 66, 3) := by decide +kernel
theorem dX7_file_71 : decode cX7_file 71 = .ok (.aload 4, 2) := by decide +kernel
theorem dX7_file_73 : decode cX7_file 73 = .ok (.aload_n 0, 1) := by decide +kernel
theorem dX7_file_74 : decode cX7_file 74 = .ok (.getfield 12, 3) := by decide +kernel
theorem dX7_file_77 : decode cX7_file 77 = .ok (.getfield 62, 3) := by decide +kernel
theorem dX7_file_80 : decode cX7_file 80 = .ok (.iload_n 2, 1) := by decide +kernel
theorem dX7_file_81 : decode cX7_file 81 = .ok (.iload_n 3, 1) := by decide +kernel
theorem dX7_file_82 : decode cX7_file 82 = .ok (.invokevirtual 70, 3) := by decide +kernel
theorem dX7_file_85 : decode cX7_file 85 = .ok (.aload_n 0, 1) := by decide +kernel
theorem dX7_file_86 : decode cX7_file 86 = .ok (.getfield 12, 3) := by decide +kernel
theorem dX7_file_89 : decode cX7_file 89 = .ok (.iconst 0, 1) := by decide +kernel
theorem dX7_file_90 : decode cX7_file 90 = .ok (.putfield 37, 3) := by decide +kernel
theorem dX7_file_93 : decode cX7_file 93 = .ok (.aload 4, 2) := by decide +kernel
theorem dX7_file_95 : decode cX7_file 95 = .ok (.getfield 73, 3) := by decide +kernel
theorem dX7_file_98 : decode cX7_file 98 = .ok (.iconst 1, 1) := by decide +kernel
theorem dX7_file_99 : decode cX7_file 99 = .ok (.isub, 1) := by decide +kernel
theorem dX7_file_100 : decode cX7_file 100 = .ok (.ireturn, 1) := by decide +kernel
set_option maxRecDepth 20000 in
theorem ggX7_made_X7_mayAddFile : GoodIn wsX7_made wsX7_mayAddFile := goodIn_r _ [8, 1, 2, 3, 9, 10, 11, 7, 12, 13, 14, 34, 35, 36, 37, 38, 39, 40, 41, 42, 43, 44, 45, 46, 47, 48, 49, 50, 51, 52, 53, 54, 55, 56, 57, 58, 59, 60] (by decide +kernel) (by decide +kernel)
set_option maxRecDepth 20000 in
theorem gX7_made_X7_mayAddFile : GoodIn wsX7_made (wsV RX7 49 RX7 yX7_mayAddFile wsX7_mayAddFile) := goodIn_app (goodIn_of _ (by decide +kernel)) ggX7_made_X7_mayAddFile
set_option maxRecDepth 20000 in
theorem ggX7_made_X2_open : GoodIn wsX7_made wsX2_open := goodIn_r _ [19, 20, 21, 22, 23, 53, 54, 55, 56, 57, 58] (by decide +kernel) (by decide +kernel)
set_option maxRecDepth 20000 in
theorem gX7_made_X2_open : GoodIn wsX7_made (wsV RX7 57 RX2 yX2_open wsX2_open) := goodIn_app (goodIn_of _ (by decide +kernel)) ggX7_made_X2_open
set_option maxRecDepth 20000 in
theorem ggX7_made_X2_nameLastByLetter : GoodIn wsX7_made wsX2_nameLastByLetter := goodIn_r _ [27, 20, 28, 23, 53, 54, 55, 56, 57, 58] (by decide +kernel) (by decide +kernel)
set_option maxRecDepth 20000 in
theorem gX7_made_X2_nameLastByLetter : GoodIn wsX7_made (wsV RX7 76 RX2 yX2_nameLastByLetter wsX2_nameLastByLetter) := goodIn_app (goodIn_of _ (by decide +kernel)) ggX7_made_X2_nameLastByLetter
set_option maxRecDepth 20000 in
theorem ggX7_made_X2_extendLastByOne : GoodIn wsX7_made wsX2_extendLastByOne := goodIn_r _ [32, 20, 21, 22, 33, 53, 54, 55, 56, 57, 58] (by decide +kernel) (by decide +kernel)
set_option maxRecDepth 20000 in
theorem gX7_made_X2_extendLastByOne : GoodIn wsX7_made (wsV RX7 80 RX2 yX2_extendLastByOne wsX2_extendLastByOne) := goodIn_app (goodIn_of _ (by decide +kernel)) ggX7_made_X2_extendLastByOne
theorem dX7_made_0 : decode cX7_made 0 = .ok (.iload_n 1, 1) := by decide +kernel
theorem dX7_made_1 : decode cX7_made 1 = .ok (.ifCond .lt 17, 3) := by decide +kernel
theorem dX7_made_4 : decode cX7_made 4 = .ok (.iload_n 1, 1) := by decide +kernel
theorem dX7_made_5 : decode cX7_made 5 = .ok (.sipush 3000, 3) := by decide +kernel
theorem dX7_made_8 : decode cX7_made 8 = .ok (.if_icmp .gt 10, 3) := by decide +kernel
theorem dX7_made_11 : decode cX7_made 11 = .ok (.aload_n 0, 1) := by decide +kernel
theorem dX7_made_12 : decode cX7_made 12 = .ok (.invokevirtual 49, 3) := by decide +kernel
theorem dX7_made_15 : decode cX7_made 15 = .ok (.ifCond .ne 5, 3) := by decide +kernel
theorem dX7_made_18 : decode cX7_made 18 = .ok (.iconst (-1), 1) := by decide +kernel
theorem dX7_made_19 : decode cX7_made 19 = .ok (.ireturn, 1) := by decide +kernel
theorem dX7_made_20 : decode cX7_made 20 = .ok (.aload_n 0, 1) := by decide +kernel
theorem dX7_made_21 : decode cX7_made 21 = .ok (.getfield 26, 3) := by decide +kernel
theorem dX7_made_24 : decode cX7_made 24 = .ok (.getfield 53, 3) := by decide +kernel
theorem dX7_made_27 : decode cX7_made 27 = .ok (.astore_n 3, 1) := by decide +kernel
theorem dX7_made_28 : decode cX7_made 28 = .ok (.aload_n 3, 1) := by decide +kernel
theorem dX7_made_29 : decode cX7_made 29 = .ok (.invokevirtual 57, 3) := by decide +kernel
theorem dX7_made_32 : decode cX7_made 32 = .ok (.aload_n 3, 1) := by decide +kernel
theorem dX7_made_33 : decode cX7_made 33 = .ok (.bipush 102, 2) := by decide +kernel
theorem dX7_made_35 : decode cX7_made 35 = .ok (.invokevirtual 76, 3) := by decide +kernel
theorem dX7_made_38 : decode cX7_made 38 = .ok (.iconst 0, 1) := by decide +kernel
theorem dX7_made_39 : decode cX7_made 39 = .ok (.istore 4, 2) := by decide +kernel
theorem dX7_made_41 : decode cX7_made 41 = .ok (.iload 4, 2) := by decide +kernel
theorem dX7_made_43 : decode cX7_made 43 = .ok (.iload_n 1, 1) := by decide +kernel
theorem dX7_made_44 : decode cX7_made 44 = .ok (.if_icmp .ge 19, 3) := by decide +kernel
theorem dX7_made_47 : decode cX7_made 47 = .ok (.aload_n 3, 1) := by decide +kernel
theorem dX7_made_48 : decode cX7_made 48 = .ok (.iload_n 2, 1) := by decide +kernel
theorem dX7_made_49 : decode cX7_made 49 = .ok (.iconst 5, 1) := by decide +kernel
theorem dX7_made_50 : decode cX7_made 50 = .ok (.iload 4, 2) := by decide +kernel
theorem dX7_made_52 : decode cX7_made 52 = .ok (.imul, 1) := by decide +kernel
theorem dX7_made_53 : decode cX7_made 53 = .ok (.iadd, 1) := by decide +kernel
theorem dX7_made_54 : decode cX7_made 54 = .ok (.invokevirtual 80, 3) := by decide +kernel
theorem dX7_made_57 : decode cX7_made 57 = .ok (.iinc 4 1, 3) := by decide +kernel
theorem dX7_made_60 : decode cX7_made 60 = .ok (.goto (-19), 3) := by decide +kernel
theorem dX7_made_63 : decode cX7_made 63 = .ok (.aload_n 3, 1) := by decide +kernel
theorem dX7_made_64 : decode cX7_made 64 = .ok (.getfield 73, 3) := by decide +kernel
theorem dX7_made_67 : decode cX7_made 67 = .ok (.iconst 1, 1) := by decide +kernel
theorem dX7_made_68 : decode cX7_made 68 = .ok (.isub, 1) := by decide +kernel
theorem dX7_made_69 : decode cX7_made 69 = .ok (.ireturn, 1) := by decide +kernel
set_option maxRecDepth 20000 in
theorem ggX7_clear_X7_isOn : GoodIn wsX7_clear wsX7_isOn := goodIn_r _ [8, 9, 10, 11, 12, 13, 14, 15, 16, 17, 18, 19, 36, 37] (by decide +kernel) (by decide +kernel)
set_option maxRecDepth 20000 in
theorem gX7_clear_X7_isOn : GoodIn wsX7_clear (wsV RX7 83 RX7 yX7_isOn wsX7_isOn) := goodIn_app (goodIn_of _ (by decide +kernel)) ggX7_clear_X7_isOn
theorem dX7_clear_0 : decode cX7_clear 0 = .ok (.aload_n 0, 1) := by decide +kernel
theorem dX7_clear_1 : decode cX7_clear 1 = .ok (.invokevirtual 83, 3) := by decide +kernel
theorem dX7_clear_4 : decode cX7_clear 4 = .ok (.ifCond .eq 5, 3) := by decide +kernel
theorem dX7_clear_7 : decode cX7_clear 7 = .ok (.iconst 0, 1) := by decide +kernel
theorem dX7_clear_8 : decode cX7_clear 8 = .ok (.ireturn, 1) := by decide +kernel
theorem dX7_clear_9 : decode cX7_clear 9 = .ok (.aload_n 0, 1) := by decide +kernel
theorem dX7_clear_10 : decode cX7_clear 10 = .ok (.getfield 26, 3) := by decide +kernel
theorem dX7_clear_13 : decode cX7_clear 13 = .ok (.getfield 53, 3) := by decide +kernel
theorem dX7_clear_16 : decode cX7_clear 16 = .ok (.iconst 0, 1) := by decide +kernel
theorem dX7_clear_17 : decode cX7_clear 17 = .ok (.putfield 73, 3) := by decide +kernel
theorem dX7_clear_20 : decode cX7_clear 20 = .ok (.iconst 1, 1) := by decide +kernel
theorem dX7_clear_21 : decode cX7_clear 21 = .ok (.ireturn, 1) := by decide +kernel
set_option maxRecDepth 20000 in
theorem ggX7_begin_X1_prepare : GoodIn wsX7_begin wsX1_prepare := goodIn_r _ [12, 13, 14, 15, 16, 17, 18, 19, 20, 21, 22, 23, 24, 25, 26, 27, 28, 11, 29, 30, 31, 32, 33, 34, 35, 36, 37, 38, 39, 40, 41, 42, 43, 44, 45, 95, 96, 97, 98, 99, 100, 101, 102, 103, 104, 111, 112, 113, 114, 115, 116, 117, 118, 119, 105, 106, 107, 108, 109, 110] (by decide +kernel) (by decide +kernel)
set_option maxRecDepth 20000 in
theorem gX7_begin_X1_prepare : GoodIn wsX7_begin (wsV RX7 86 RX1 yX1_prepare wsX1_prepare) := goodIn_app (goodIn_of _ (by decide +kernel)) ggX7_begin_X1_prepare
set_option maxRecDepth 20000 in
theorem ggX7_begin_X0_prepare : GoodIn wsX7_begin wsX0_prepare := goodIn_r _ [50, 51, 52, 53, 54, 55, 56, 57, 20, 21, 22, 23, 24, 25, 58, 59, 60, 49, 61, 62, 63, 64, 65, 66, 43, 67, 45, 68, 69, 70, 71, 72, 73, 74, 111, 112, 113, 114, 115, 116, 117, 118, 119, 105, 106, 107, 108, 109, 110, 95, 96, 97, 98, 99, 100, 101, 102, 103, 104] (by decide +kernel) (by decide +kernel)
set_option maxRecDepth 20000 in
theorem gX7_begin_X0_prepare : GoodIn wsX7_begin (wsV RX7 89 RX0 yX0_prepare wsX0_prepare) := goodIn_app (goodIn_of _ (by decide +kernel)) ggX7_begin_X0_prepare
set_option maxRecDepth 20000 in
theorem ggX7_begin_X7_askOf : GoodIn wsX7_begin wsX7_askOf := goodIn_r _ [78] (by decide +kernel) (by decide +kernel)
set_option maxRecDepth 20000 in
theorem gX7_begin_X7_askOf : GoodIn wsX7_begin (va_wsS RX7 90 yX7_askOf wsX7_askOf) := goodIn_app (goodIn_of _ (by decide +kernel)) ggX7_begin_X7_askOf
set_option maxRecDepth 20000 in
theorem ggX7_begin_X6_putByte : GoodIn wsX7_begin wsX6_putByte := goodIn_r _ [83, 84, 85, 120, 121] (by decide +kernel) (by decide +kernel)
set_option maxRecDepth 20000 in
theorem gX7_begin_X6_putByte : GoodIn wsX7_begin (wsV RX7 94 RX6 yX6_putByte wsX6_putByte) := goodIn_app (goodIn_of _ (by decide +kernel)) ggX7_begin_X6_putByte
theorem dX7_begin_0 : decode cX7_begin 0 = .ok (.aload_n 0, 1) := by decide +kernel
theorem dX7_begin_1 : decode cX7_begin 1 = .ok (.getfield 26, 3) := by decide +kernel
theorem dX7_begin_4 : decode cX7_begin 4 = .ok (.getfield 53, 3) := by decide +kernel
theorem dX7_begin_7 : decode cX7_begin 7 = .ok (.getfield 73, 3) := by decide +kernel
