theorem dX7_begin_10 : decode cX7_begin 10 = .ok (.ifCond .eq 12, 3) := by decide +kernel
theorem dX7_begin_13 : decode cX7_begin 13 = .ok (.iload_n 1, 1) := by decide +kernel
theorem dX7_begin_14 : decode cX7_begin 14 = .ok (.ifCond .lt 8, 3) := by decide +kernel
theorem dX7_begin_17 : decode cX7_begin 17 = .ok (.iload_n 1, 1) := by decide +kernel
theorem dX7_begin_18 : decode cX7_begin 18 = .ok (.iconst 3, 1) := by decide +kernel
theorem dX7_begin_19 : decode cX7_begin 19 = .ok (.if_icmp .le 5, 3) := by decide +kernel
theorem dX7_begin_22 : decode cX7_begin 22 = .ok (.iconst 0, 1) := by decide +kernel
theorem dX7_begin_23 : decode cX7_begin 23 = .ok (.ireturn, 1) := by decide +kernel
theorem dX7_begin_24 : decode cX7_begin 24 = .ok (.aload_n 0, 1) := by decide +kernel
theorem dX7_begin_25 : decode cX7_begin 25 = .ok (.getfield 26, 3) := by decide +kernel
theorem dX7_begin_28 : decode cX7_begin 28 = .ok (.iload_n 1, 1) := by decide +kernel
theorem dX7_begin_29 : decode cX7_begin 29 = .ok (.invokevirtual 86, 3) := by decide +kernel
theorem dX7_begin_32 : decode cX7_begin 32 = .ok (.aload_n 0, 1) := by decide +kernel
theorem dX7_begin_33 : decode cX7_begin 33 = .ok (.getfield 33, 3) := by decide +kernel
theorem dX7_begin_36 : decode cX7_begin 36 = .ok (.iload_n 1, 1) := by decide +kernel
theorem dX7_begin_37 : decode cX7_begin 37 = .ok (.invokevirtual 89, 3) := by decide +kernel
theorem dX7_begin_40 : decode cX7_begin 40 = .ok (.aload_n 0, 1) := by decide +kernel
theorem dX7_begin_41 : decode cX7_begin 41 = .ok (.getfield 19, 3) := by decide +kernel
theorem dX7_begin_44 : decode cX7_begin 44 = .ok (.iload_n 1, 1) := by decide +kernel
theorem dX7_begin_45 : decode cX7_begin 45 = .ok (.invokestatic 90, 3) := by decide +kernel
theorem dX7_begin_48 : decode cX7_begin 48 = .ok (.invokevirtual 94, 3) := by decide +kernel
theorem dX7_begin_51 : decode cX7_begin 51 = .ok (.aload_n 0, 1) := by decide +kernel
theorem dX7_begin_52 : decode cX7_begin 52 = .ok (.iconst 1, 1) := by decide +kernel
theorem dX7_begin_53 : decode cX7_begin 53 = .ok (.putfield 97, 3) := by decide +kernel
theorem dX7_begin_56 : decode cX7_begin 56 = .ok (.aload_n 0, 1) := by decide +kernel
theorem dX7_begin_57 : decode cX7_begin 57 = .ok (.iconst 1, 1) := by decide +kernel
theorem dX7_begin_58 : decode cX7_begin 58 = .ok (.putfield 101, 3) := by decide +kernel
theorem dX7_begin_61 : decode cX7_begin 61 = .ok (.iconst 1, 1) := by decide +kernel
theorem dX7_begin_62 : decode cX7_begin 62 = .ok (.ireturn, 1) := by decide +kernel
theorem dX7_spoil_0 : decode cX7_spoil 0 = .ok (.aload_n 0, 1) := by decide +kernel
theorem dX7_spoil_1 : decode cX7_spoil 1 = .ok (.iconst 1, 1) := by decide +kernel
theorem dX7_spoil_2 : decode cX7_spoil 2 = .ok (.putfield 104, 3) := by decide +kernel
theorem dX7_spoil_5 : decode cX7_spoil 5 = .ok (.aload_n 0, 1) := by decide +kernel
theorem dX7_spoil_6 : decode cX7_spoil 6 = .ok (.iload_n 1, 1) := by decide +kernel
theorem dX7_spoil_7 : decode cX7_spoil 7 = .ok (.putfield 107, 3) := by decide +kernel
theorem dX7_spoil_10 : decode cX7_spoil 10 = .ok (.aload_n 0, 1) := by decide +kernel
theorem dX7_spoil_11 : decode cX7_spoil 11 = .ok (.iload_n 2, 1) := by decide +kernel
theorem dX7_spoil_12 : decode cX7_spoil 12 = .ok (.sipush 255, 3) := by decide +kernel
theorem dX7_spoil_15 : decode cX7_spoil 15 = .ok (.iand, 1) := by decide +kernel
theorem dX7_spoil_16 : decode cX7_spoil 16 = .ok (.putfield 110, 3) := by decide +kernel
theorem dX7_spoil_19 : decode cX7_spoil 19 = .ok (.return_, 1) := by decide +kernel
set_option maxRecDepth 20000 in
theorem ggX7_step_X7_isOn : GoodIn wsX7_step wsX7_isOn := goodIn_r _ [9, 3, 10, 263, 264, 265, 266, 267, 268, 269, 270, 271, 272, 273] (by decide +kernel) (by decide +kernel)
set_option maxRecDepth 20000 in
theorem gX7_step_X7_isOn : GoodIn wsX7_step (wsV RX7 83 RX7 yX7_isOn wsX7_isOn) := goodIn_app (goodIn_of _ (by decide +kernel)) ggX7_step_X7_isOn
set_option maxRecDepth 20000 in
theorem ggX7_step_X7_spoilWire : GoodIn wsX7_step wsX7_spoilWire := goodIn_r _ [14, 15, 16, 3, 17, 18, 19, 20, 21, 22, 23, 24, 25, 26, 27, 28, 29, 30, 31, 32, 263, 264, 265, 266, 267, 268, 269, 270, 271, 272, 273] (by decide +kernel) (by decide +kernel)
set_option maxRecDepth 20000 in
theorem gX7_step_X7_spoilWire : GoodIn wsX7_step (wsV RX7 113 RX7 yX7_spoilWire wsX7_spoilWire) := goodIn_app (goodIn_of _ (by decide +kernel)) ggX7_step_X7_spoilWire
set_option maxRecDepth 20000 in
theorem ggX7_step_X3_hear : GoodIn wsX7_step wsX3_hear := goodIn_r _ [38, 39, 40, 19, 20, 21, 22, 23, 41, 42, 43, 44, 45, 46, 47, 48, 28, 49, 50, 51, 52, 53, 54, 55, 56, 57, 58, 59, 60, 61, 62, 63, 64, 65, 66, 67, 68, 69, 70, 71, 72, 73, 74, 75, 76, 77, 78, 79, 80, 81, 82, 83, 84, 85, 86, 87, 88, 89, 90, 91, 92, 93, 94, 95, 96, 97, 98, 99, 100, 101, 102, 103, 104, 105, 106, 107, 108, 109, 110, 111, 112, 113, 114, 115, 116, 117, 118, 119, 120, 121, 122, 123, 124, 125, 126, 127, 128, 129, 130, 131, 132, 133, 134, 135, 136, 137, 138, 139, 140, 141, 142, 143, 37, 144, 145, 146, 147, 148, 149, 150, 151, 152, 153, 154, 155, 156, 157, 158, 159, 160, 161, 162, 163, 164, 165, 166, 167, 168, 169, 170, 171, 172, 173, 8, 174, 175, 176, 177, 178, 179, 180, 181, 182, 183, 184, 185, 186, 187, 188, 189, 190, 191, 192, 193, 194, 195, 196, 197, 198, 199, 200, 201, 202, 203, 204, 205, 206, 207, 208, 209, 210, 211, 212, 213, 214, 215, 216, 217, 218, 219, 220, 221, 222, 223, 224, 225, 226, 227, 228, 229, 230, 231, 232, 233, 234, 235, 236, 237, 238, 239, 240, 241, 242, 243, 244, 245, 246, 247, 248, 249, 250, 251, 252, 253, 254, 255, 256, 257, 258, 274, 275, 276, 277, 278, 279, 280, 281, 282, 283, 284, 285, 286, 287, 288, 289, 290, 291, 292, 272, 273, 293, 294, 295, 296, 297, 298] (by decide +kernel) (by decide +kernel)
set_option maxRecDepth 20000 in
theorem gX7_step_X3_hear_u116X1 : GoodIn wsX7_step (va_wsU RX7 116 RX1 "BatchTransfer$Side" ⟨"BatchTransfer$Sender", "hear", "(LBatchTransfer$Wire;)V"⟩ yX3_hear wsX3_hear) := goodIn_app (goodIn_of _ (by decide +kernel)) ggX7_step_X3_hear
set_option maxRecDepth 20000 in
theorem gX7_step_X3_hear_u120X0 : GoodIn wsX7_step (va_wsU RX7 120 RX0 "BatchTransfer$Side" ⟨"BatchTransfer$Receiver", "hear", "(LBatchTransfer$Wire;)V"⟩ yX3_hear wsX3_hear) := goodIn_app (goodIn_of _ (by decide +kernel)) ggX7_step_X3_hear
set_option maxRecDepth 20000 in
theorem ggX7_step_X6_get : GoodIn wsX7_step wsX6_get := goodIn_r _ [48, 28, 272, 273] (by decide +kernel) (by decide +kernel)
set_option maxRecDepth 20000 in
theorem gX7_step_X6_get : GoodIn wsX7_step (wsV RX7 121 RX6 yX6_get wsX6_get) := goodIn_app (goodIn_of _ (by decide +kernel)) ggX7_step_X6_get
theorem dX7_step_0 : decode cX7_step 0 = .ok (.aload_n 0, 1) := by decide +kernel
theorem dX7_step_1 : decode cX7_step 1 = .ok (.invokevirtual 83, 3) := by decide +kernel
theorem dX7_step_4 : decode cX7_step 4 = .ok (.ifCond .ne 5, 3) := by decide +kernel
theorem dX7_step_7 : decode cX7_step 7 = .ok (.iconst (-1), 1) := by decide +kernel
theorem dX7_step_8 : decode cX7_step 8 = .ok (.ireturn, 1) := by decide +kernel
theorem dX7_step_9 : decode cX7_step 9 = .ok (.aload_n 0, 1) := by decide +kernel
theorem dX7_step_10 : decode cX7_step 10 = .ok (.invokevirtual 113, 3) := by decide +kernel
theorem dX7_step_13 : decode cX7_step 13 = .ok (.aload_n 0, 1) := by decide +kernel
theorem dX7_step_14 : decode cX7_step 14 = .ok (.getfield 97, 3) := by decide +kernel
theorem dX7_step_17 : decode cX7_step 17 = .ok (.ifCond .eq 17, 3) := by decide +kernel
theorem dX7_step_20 : decode cX7_step 20 = .ok (.aload_n 0, 1) := by decide +kernel
theorem dX7_step_21 : decode cX7_step 21 = .ok (.getfield 26, 3) := by decide +kernel
theorem dX7_step_24 : decode cX7_step 24 = .ok (.aload_n 0, 1) := by decide +kernel
theorem dX7_step_25 : decode cX7_step 25 = .ok (.getfield 19, 3) := by decide +kernel
theorem dX7_step_28 : decode cX7_step 28 = .ok (.invokevirtual 116, 3) := by decide +kernel
theorem dX7_step_31 : decode cX7_step 31 = .ok (.goto 14, 3) := by decide +kernel
theorem dX7_step_34 : decode cX7_step 34 = .ok (.aload_n 0, 1) := by decide +kernel
theorem dX7_step_35 : decode cX7_step 35 = .ok (.getfield 33, 3) := by decide +kernel
theorem dX7_step_38 : decode cX7_step 38 = .ok (.aload_n 0, 1) := by decide +kernel
theorem dX7_step_39 : decode cX7_step 39 = .ok (.getfield 19, 3) := by decide +kernel
theorem dX7_step_42 : decode cX7_step 42 = .ok (.invokevirtual 120, 3) := by decide +kernel
theorem dX7_step_45 : decode cX7_step 45 = .ok (.aload_n 0, 1) := by decide +kernel
theorem dX7_step_46 : decode cX7_step 46 = .ok (.aload_n 0, 1) := by decide +kernel
theorem dX7_step_47 : decode cX7_step 47 = .ok (.getfield 97, 3) := by decide +kernel
theorem dX7_step_50 : decode cX7_step 50 = .ok (.ifCond .ne 7, 3) := by decide +kernel
theorem dX7_step_53 : decode cX7_step 53 = .ok (.iconst 1, 1) := by decide +kernel
theorem dX7_step_54 : decode cX7_step 54 = .ok (.goto 4, 3) := by decide +kernel
theorem dX7_step_57 : decode cX7_step 57 = .ok (.iconst 0, 1) := by decide +kernel
theorem dX7_step_58 : decode cX7_step 58 = .ok (.putfield 97, 3) := by decide +kernel
theorem dX7_step_61 : decode cX7_step 61 = .ok (.aload_n 0, 1) := by decide +kernel
theorem dX7_step_62 : decode cX7_step 62 = .ok (.invokevirtual 83, 3) := by decide +kernel
theorem dX7_step_65 : decode cX7_step 65 = .ok (.ifCond .eq 14, 3) := by decide +kernel
theorem dX7_step_68 : decode cX7_step 68 = .ok (.aload_n 0, 1) := by decide +kernel
theorem dX7_step_69 : decode cX7_step 69 = .ok (.getfield 19, 3) := by decide +kernel
theorem dX7_step_72 : decode cX7_step 72 = .ok (.iconst 0, 1) := by decide +kernel
theorem dX7_step_73 : decode cX7_step 73 = .ok (.invokevirtual 121, 3) := by decide +kernel
theorem dX7_step_76 : decode cX7_step 76 = .ok (.goto 4, 3) := by decide +kernel
theorem dX7_step_79 : decode cX7_step 79 = .ok (.iconst (-1), 1) := by decide +kernel
theorem dX7_step_80 : decode cX7_step 80 = .ok (.ireturn, 1) := by decide +kernel
theorem dX7_line_0 : decode cX7_line 0 = .ok (.aload_n 0, 1) := by decide +kernel
theorem dX7_line_1 : decode cX7_line 1 = .ok (.getfield 19, 3) := by decide +kernel
theorem dX7_line_4 : decode cX7_line 4 = .ok (.getfield 124, 3) := by decide +kernel
theorem dX7_line_7 : decode cX7_line 7 = .ok (.ireturn, 1) := by decide +kernel
set_option maxRecDepth 20000 in
theorem ggX7_lineAt_X6_get : GoodIn wsX7_lineAt wsX6_get := goodIn_r _ [9, 10, 20, 21] (by decide +kernel) (by decide +kernel)
set_option maxRecDepth 20000 in
theorem gX7_lineAt_X6_get : GoodIn wsX7_lineAt (wsV RX7 121 RX6 yX6_get wsX6_get) := goodIn_app (goodIn_of _ (by decide +kernel)) ggX7_lineAt_X6_get
theorem dX7_lineAt_0 : decode cX7_lineAt 0 = .ok (.iload_n 1, 1) := by decide +kernel
theorem dX7_lineAt_1 : decode cX7_lineAt 1 = .ok (.ifCond .lt 14, 3) := by decide +kernel
theorem dX7_lineAt_4 : decode cX7_lineAt 4 = .ok (.iload_n 1, 1) := by decide +kernel
theorem dX7_lineAt_5 : decode cX7_lineAt 5 = .ok (.aload_n 0, 1) := by decide +kernel
theorem dX7_lineAt_6 : decode cX7_lineAt 6 = .ok (.getfield 19, 3) := by decide +kernel
theorem dX7_lineAt_9 : decode cX7_lineAt 9 = .ok (.getfield 124, 3) := by decide +kernel
theorem dX7_lineAt_12 : decode cX7_lineAt 12 = .ok (.if_icmp .lt 11, 3) := by decide +kernel
theorem dX7_lineAt_15 : decode cX7_lineAt 15 = .ok (.new 125, 3) := by decide +kernel
theorem dX7_lineAt_18 : decode cX7_lineAt 18 = .ok (.dup, 1) := by decide +kernel
theorem dX7_lineAt_19 : decode cX7_lineAt 19 = .ok (.invokespecial 127, 3) := by decide +kernel
theorem dX7_lineAt_22 : decode cX7_lineAt 22 = .ok (.athrow, 1) := by decide +kernel
theorem dX7_lineAt_23 : decode cX7_lineAt 23 = .ok (.aload_n 0, 1) := by decide +kernel
theorem dX7_lineAt_24 : decode cX7_lineAt 24 = .ok (.getfield 19, 3) := by decide +kernel
theorem dX7_lineAt_27 : decode cX7_lineAt 27 = .ok (.iload_n 1, 1) := by decide +kernel
theorem dX7_lineAt_28 : decode cX7_lineAt 28 = .ok (.invokevirtual 121, 3) := by decide +kernel
theorem dX7_lineAt_31 : decode cX7_lineAt 31 = .ok (.ireturn, 1) := by decide +kernel
theorem dX7_state_0 : decode cX7_state 0 = .ok (.aload_n 0, 1) := by decide +kernel
theorem dX7_state_1 : decode cX7_state 1 = .ok (.getfield 101, 3) := by decide +kernel
theorem dX7_state_4 : decode cX7_state 4 = .ok (.ifCond .ne 5, 3) := by decide +kernel
theorem dX7_state_7 : decode cX7_state 7 = .ok (.iconst (-1), 1) := by decide +kernel
theorem dX7_state_8 : decode cX7_state 8 = .ok (.ireturn, 1) := by decide +kernel
theorem dX7_state_9 : decode cX7_state 9 = .ok (.iload_n 1, 1) := by decide +kernel
theorem dX7_state_10 : decode cX7_state 10 = .ok (.lookupswitch 42 #[(0, 26), (1, 34)], 26) := by decide +kernel
theorem dX7_state_36 : decode cX7_state 36 = .ok (.aload_n 0, 1) := by decide +kernel
theorem dX7_state_37 : decode cX7_state 37 = .ok (.getfield 26, 3) := by decide +kernel
theorem dX7_state_40 : decode cX7_state 40 = .ok (.getfield 128, 3) := by decide +kernel
theorem dX7_state_43 : decode cX7_state 43 = .ok (.ireturn, 1) := by decide +kernel
theorem dX7_state_44 : decode cX7_state 44 = .ok (.aload_n 0, 1) := by decide +kernel
theorem dX7_state_45 : decode cX7_state 45 = .ok (.getfield 33, 3) := by decide +kernel
theorem dX7_state_48 : decode cX7_state 48 = .ok (.getfield 131, 3) := by decide +kernel
theorem dX7_state_51 : decode cX7_state 51 = .ok (.ireturn, 1) := by decide +kernel
theorem dX7_state_52 : decode cX7_state 52 = .ok (.iconst (-1), 1) := by decide +kernel
theorem dX7_state_53 : decode cX7_state 53 = .ok (.ireturn, 1) := by decide +kernel
theorem dX7_received_0 : decode cX7_received 0 = .ok (.aload_n 0, 1) := by decide +kernel
theorem dX7_received_1 : decode cX7_received 1 = .ok (.getfield 33, 3) := by decide +kernel
theorem dX7_received_4 : decode cX7_received 4 = .ok (.getfield 132, 3) := by decide +kernel
theorem dX7_received_7 : decode cX7_received 7 = .ok (.getfield 73, 3) := by decide +kernel
theorem dX7_received_10 : decode cX7_received 10 = .ok (.ireturn, 1) := by decide +kernel
set_option maxRecDepth 20000 in
theorem ggX7_size_X2_has : GoodIn wsX7_size wsX2_has := goodIn_r _ [8, 9, 28, 29, 30, 31, 32, 33] (by decide +kernel) (by decide +kernel)
set_option maxRecDepth 20000 in
theorem gX7_size_X2_has : GoodIn wsX7_size (wsV RX7 135 RX2 yX2_has wsX2_has) := goodIn_app (goodIn_of _ (by decide +kernel)) ggX7_size_X2_has
theorem dX7_size_0 : decode cX7_size 0 = .ok (.aload_n 0, 1) := by decide +kernel
theorem dX7_size_1 : decode cX7_size 1 = .ok (.getfield 33, 3) := by decide +kernel
theorem dX7_size_4 : decode cX7_size 4 = .ok (.getfield 132, 3) := by decide +kernel
theorem dX7_size_7 : decode cX7_size 7 = .ok (.iload_n 1, 1) := by decide +kernel
theorem dX7_size_8 : decode cX7_size 8 = .ok (.invokevirtual 135, 3) := by decide +kernel
theorem dX7_size_11 : decode cX7_size 11 = .ok (.ifCond .eq 18, 3) := by decide +kernel
theorem dX7_size_14 : decode cX7_size 14 = .ok (.aload_n 0, 1) := by decide +kernel
theorem dX7_size_15 : decode cX7_size 15 = .ok (.getfield 33, 3) := by decide +kernel
theorem dX7_size_18 : decode cX7_size 18 = .ok (.getfield 132, 3) := by decide +kernel
theorem dX7_size_21 : decode cX7_size 21 = .ok (.getfield 139, 3) := by decide +kernel
theorem dX7_size_24 : decode cX7_size 24 = .ok (.iload_n 1, 1) := by decide +kernel
theorem dX7_size_25 : decode cX7_size 25 = .ok (.iaload, 1) := by decide +kernel
theorem dX7_size_26 : decode cX7_size 26 = .ok (.goto 4, 3) := by decide +kernel
theorem dX7_size_29 : decode cX7_size 29 = .ok (.iconst (-1), 1) := by decide +kernel
theorem dX7_size_30 : decode cX7_size 30 = .ok (.ireturn, 1) := by decide +kernel
set_option maxRecDepth 20000 in
theorem ggX7_byteAt_X2_has : GoodIn wsX7_byteAt wsX2_has := goodIn_r _ [12, 13, 32, 33, 34, 35, 36, 37] (by decide +kernel) (by decide +kernel)
set_option maxRecDepth 20000 in
theorem gX7_byteAt_X2_has : GoodIn wsX7_byteAt (wsV RX7 135 RX2 yX2_has wsX2_has) := goodIn_app (goodIn_of _ (by decide +kernel)) ggX7_byteAt_X2_has
theorem dX7_byteAt_0 : decode cX7_byteAt 0 = .ok (.aload_n 0, 1) := by decide +kernel
theorem dX7_byteAt_1 : decode cX7_byteAt 1 = .ok (.getfield 33, 3) := by decide +kernel
theorem dX7_byteAt_4 : decode cX7_byteAt 4 = .ok (.getfield 132, 3) := by decide +kernel
theorem dX7_byteAt_7 : decode cX7_byteAt 7 = .ok (.astore_n 3, 1) := by decide +kernel
theorem dX7_byteAt_8 : decode cX7_byteAt 8 = .ok (.aload_n 3, 1) := by decide +kernel
theorem dX7_byteAt_9 : decode cX7_byteAt 9 = .ok (.iload_n 1, 1) := by decide +kernel
theorem dX7_byteAt_10 : decode cX7_byteAt 10 = .ok (.invokevirtual 135, 3) := by decide +kernel
theorem dX7_byteAt_13 : decode cX7_byteAt 13 = .ok (.ifCond .eq 17, 3) := by decide +kernel
theorem dX7_byteAt_16 : decode cX7_byteAt 16 = .ok (.iload_n 2, 1) := by decide +kernel
theorem dX7_byteAt_17 : decode cX7_byteAt 17 = .ok (.ifCond .lt 13, 3) := by decide +kernel
theorem dX7_byteAt_20 : decode cX7_byteAt 20 = .ok (.iload_n 2, 1) := by decide +kernel
theorem dX7_byteAt_21 : decode cX7_byteAt 21 = .ok (.aload_n 3, 1) := by decide +kernel
theorem dX7_byteAt_22 : decode cX7_byteAt 22 = .ok (.getfield 139, 3) := by decide +kernel
theorem dX7_byteAt_25 : decode cX7_byteAt 25 = .ok (.iload_n 1, 1) := by decide +kernel
theorem dX7_byteAt_26 : decode cX7_byteAt 26 = .ok (.iaload, 1) := by decide +kernel
theorem dX7_byteAt_27 : decode cX7_byteAt 27 = .ok (.if_icmp .lt 11, 3) := by decide +kernel
theorem dX7_byteAt_30 : decode cX7_byteAt 30 = .ok (.new 125, 3) := by decide +kernel
theorem dX7_byteAt_33 : decode cX7_byteAt 33 = .ok (.dup, 1) := by decide +kernel
theorem dX7_byteAt_34 : decode cX7_byteAt 34 = .ok (.invokespecial 127, 3) := by decide +kernel
theorem dX7_byteAt_37 : decode cX7_byteAt 37 = .ok (.athrow, 1) := by decide +kernel
theorem dX7_byteAt_38 : decode cX7_byteAt 38 = .ok (.aload_n 3, 1) := by decide +kernel
theorem dX7_byteAt_39 : decode cX7_byteAt 39 = .ok (.getfield 143, 3) := by decide +kernel
theorem dX7_byteAt_42 : decode cX7_byteAt 42 = .ok (.aload_n 3, 1) := by decide +kernel
theorem dX7_byteAt_43 : decode cX7_byteAt 43 = .ok (.getfield 146, 3) := by decide +kernel
theorem dX7_byteAt_46 : decode cX7_byteAt 46 = .ok (.iload_n 1, 1) := by decide +kernel
theorem dX7_byteAt_47 : decode cX7_byteAt 47 = .ok (.iaload, 1) := by decide +kernel
theorem dX7_byteAt_48 : decode cX7_byteAt 48 = .ok (.iload_n 2, 1) := by decide +kernel
theorem dX7_byteAt_49 : decode cX7_byteAt 49 = .ok (.iadd, 1) := by decide +kernel
theorem dX7_byteAt_50 : decode cX7_byteAt 50 = .ok (.baload, 1) := by decide +kernel
theorem dX7_byteAt_51 : decode cX7_byteAt 51 = .ok (.sipush 255, 3) := by decide +kernel
theorem dX7_byteAt_54 : decode cX7_byteAt 54 = .ok (.iand, 1) := by decide +kernel
theorem dX7_byteAt_55 : decode cX7_byteAt 55 = .ok (.ireturn, 1) := by decide +kernel
set_option maxRecDepth 20000 in
theorem ggX7_nameAt_X2_has : GoodIn wsX7_nameAt wsX2_has := goodIn_r _ [9, 10, 29, 30, 31, 32, 33, 34] (by decide +kernel) (by decide +kernel)
set_option maxRecDepth 20000 in
theorem gX7_nameAt_X2_has : GoodIn wsX7_nameAt (wsV RX7 135 RX2 yX2_has wsX2_has) := goodIn_app (goodIn_of _ (by decide +kernel)) ggX7_nameAt_X2_has
theorem dX7_nameAt_0 : decode cX7_nameAt 0 = .ok (.aload_n 0, 1) := by decide +kernel
theorem dX7_nameAt_1 : decode cX7_nameAt 1 = .ok (.getfield 33, 3) := by decide +kernel
theorem dX7_nameAt_4 : decode cX7_nameAt 4 = .ok (.getfield 132, 3) := by decide +kernel
theorem dX7_nameAt_7 : decode cX7_nameAt 7 = .ok (.astore_n 3, 1) := by decide +kernel
theorem dX7_nameAt_8 : decode cX7_nameAt 8 = .ok (.aload_n 3, 1) := by decide +kernel
theorem dX7_nameAt_9 : decode cX7_nameAt 9 = .ok (.iload_n 1, 1) := by decide +kernel
theorem dX7_nameAt_10 : decode cX7_nameAt 10 = .ok (.invokevirtual 135, 3) := by decide +kernel
theorem dX7_nameAt_13 : decode cX7_nameAt 13 = .ok (.ifCond .eq 17, 3) := by decide +kernel
theorem dX7_nameAt_16 : decode cX7_nameAt 16 = .ok (.iload_n 2, 1) := by decide +kernel
theorem dX7_nameAt_17 : decode cX7_nameAt 17 = .ok (.ifCond .lt 13, 3) := by decide +kernel
theorem dX7_nameAt_20 : decode cX7_nameAt 20 = .ok (.iload_n 2, 1) := by decide +kernel
theorem dX7_nameAt_21 : decode cX7_nameAt 21 = .ok (.aload_n 3, 1) := by decide +kernel
theorem dX7_nameAt_22 : decode cX7_nameAt 22 = .ok (.getfield 149, 3) := by decide +kernel
theorem dX7_nameAt_25 : decode cX7_nameAt 25 = .ok (.iload_n 1, 1) := by decide +kernel
theorem dX7_nameAt_26 : decode cX7_nameAt 26 = .ok (.iaload, 1) := by decide +kernel
theorem dX7_nameAt_27 : decode cX7_nameAt 27 = .ok (.if_icmp .lt 5, 3) := by decide +kernel
theorem dX7_nameAt_30 : decode cX7_nameAt 30 = .ok (.iconst (-1), 1) := by decide +kernel
theorem dX7_nameAt_31 : decode cX7_nameAt 31 = .ok (.ireturn, 1) := by decide +kernel
theorem dX7_nameAt_32 : decode cX7_nameAt 32 = .ok (.aload_n 3, 1) := by decide +kernel
theorem dX7_nameAt_33 : decode cX7_nameAt 33 = .ok (.getfield 152, 3) := by decide +kernel
theorem dX7_nameAt_36 : decode cX7_nameAt 36 = .ok (.iload_n 1, 1) := by decide +kernel
theorem dX7_nameAt_37 : decode cX7_nameAt 37 = .ok (.bipush 12, 2) := by decide +kernel
theorem dX7_nameAt_39 : decode cX7_nameAt 39 = .ok (.imul, 1) := by decide +kernel
theorem dX7_nameAt_40 : decode cX7_nameAt 40 = .ok (.iload_n 2, 1) := by decide +kernel
theorem dX7_nameAt_41 : decode cX7_nameAt 41 = .ok (.iadd, 1) := by decide +kernel
theorem dX7_nameAt_42 : decode cX7_nameAt 42 = .ok (.baload, 1) := by decide +kernel
theorem dX7_nameAt_43 : decode cX7_nameAt 43 = .ok (.sipush 255, 3) := by decide +kernel
theorem dX7_nameAt_46 : decode cX7_nameAt 46 = .ok (.iand, 1) := by decide +kernel
theorem dX7_nameAt_47 : decode cX7_nameAt 47 = .ok (.ireturn, 1) := by decide +kernel
theorem dX7_isOn_0 : decode cX7_isOn 0 = .ok (.aload_n 0, 1) := by decide +kernel
theorem dX7_isOn_1 : decode cX7_isOn 1 = .ok (.getfield 19, 3) := by decide +kernel
theorem dX7_isOn_4 : decode cX7_isOn 4 = .ok (.getfield 124, 3) := by decide +kernel
theorem dX7_isOn_7 : decode cX7_isOn 7 = .ok (.ifCond .le 7, 3) := by decide +kernel
theorem dX7_isOn_10 : decode cX7_isOn 10 = .ok (.iconst 1, 1) := by decide +kernel
theorem dX7_isOn_11 : decode cX7_isOn 11 = .ok (.goto 4, 3) := by decide +kernel
theorem dX7_isOn_14 : decode cX7_isOn 14 = .ok (.iconst 0, 1) := by decide +kernel
theorem dX7_isOn_15 : decode cX7_isOn 15 = .ok (.ireturn, 1) := by decide +kernel
set_option maxRecDepth 20000 in
theorem ggX7_mayAddFile_X7_isOn : GoodIn wsX7_mayAddFile wsX7_isOn := goodIn_r _ [8, 9, 10, 11, 12, 13, 14, 15, 16, 17, 18, 19, 36, 37] (by decide +kernel) (by decide +kernel)
set_option maxRecDepth 20000 in
theorem gX7_mayAddFile_X7_isOn : GoodIn wsX7_mayAddFile (wsV RX7 83 RX7 yX7_isOn wsX7_isOn) := goodIn_app (goodIn_of _ (by decide +kernel)) ggX7_mayAddFile_X7_isOn
theorem dX7_mayAddFile_0 : decode cX7_mayAddFile 0 = .ok (.aload_n 0, 1) := by decide +kernel
theorem dX7_mayAddFile_1 : decode cX7_mayAddFile 1 = .ok (.getfield 26, 3) := by decide +kernel
theorem dX7_mayAddFile_4 : decode cX7_mayAddFile 4 = .ok (.getfield 53, 3) := by decide +kernel
theorem dX7_mayAddFile_7 : decode cX7_mayAddFile 7 = .ok (.getfield 73, 3) := by decide +kernel
theorem dX7_mayAddFile_10 : decode cX7_mayAddFile 10 = .ok (.bipush 8, 2) := by decide +kernel
theorem dX7_mayAddFile_12 : decode cX7_mayAddFile 12 = .ok (.if_icmp .ge 14, 3) := by decide +kernel
theorem dX7_mayAddFile_15 : decode cX7_mayAddFile 15 = .ok (.aload_n 0, 1) := by decide +kernel
theorem dX7_mayAddFile_16 : decode cX7_mayAddFile 16 = .ok (.invokevirtual 83, 3) := by decide +kernel
theorem dX7_mayAddFile_19 : decode cX7_mayAddFile 19 = .ok (.ifCond .ne 7, 3) := by decide +kernel
theorem dX7_mayAddFile_22 : decode cX7_mayAddFile 22 = .ok (.iconst 1, 1) := by decide +kernel
theorem dX7_mayAddFile_23 : decode cX7_mayAddFile 23 = .ok (.goto 4, 3) := by decide +kernel
theorem dX7_mayAddFile_26 : decode cX7_mayAddFile 26 = .ok (.iconst 0, 1) := by decide +kernel
theorem dX7_mayAddFile_27 : decode cX7_mayAddFile 27 = .ok (.ireturn, 1) := by decide +kernel
set_option maxRecDepth 20000 in
theorem ggX7_spoilWire_X6_empty : GoodIn wsX7_spoilWire wsX6_empty := goodIn_r _ [9, 10, 29, 30] (by decide +kernel) (by decide +kernel)
set_option maxRecDepth 20000 in
theorem gX7_spoilWire_X6_empty : GoodIn wsX7_spoilWire (wsV RX7 155 RX6 yX6_empty wsX6_empty) := goodIn_app (goodIn_of _ (by decide +kernel)) ggX7_spoilWire_X6_empty
set_option maxRecDepth 20000 in
theorem ggX7_spoilWire_X6_damage : GoodIn wsX7_spoilWire wsX6_damage := goodIn_r _ [14, 10, 15, 16, 17, 18, 19, 29, 30] (by decide +kernel) (by decide +kernel)
set_option maxRecDepth 20000 in
theorem gX7_spoilWire_X6_damage : GoodIn wsX7_spoilWire (wsV RX7 158 RX6 yX6_damage wsX6_damage) := goodIn_app (goodIn_of _ (by decide +kernel)) ggX7_spoilWire_X6_damage
theorem dX7_spoilWire_0 : decode cX7_spoilWire 0 = .ok (.aload_n 0, 1) := by decide +kernel
theorem dX7_spoilWire_1 : decode cX7_spoilWire 1 = .ok (.getfield 104, 3) := by decide +kernel
theorem dX7_spoilWire_4 : decode cX7_spoilWire 4 = .ok (.ifCond .ne 4, 3) := by decide +kernel
theorem dX7_spoilWire_7 : decode cX7_spoilWire 7 = .ok (.return_, 1) := by decide +kernel
theorem dX7_spoilWire_8 : decode cX7_spoilWire 8 = .ok (.aload_n 0, 1) := by decide +kernel
theorem dX7_spoilWire_9 : decode cX7_spoilWire 9 = .ok (.iconst 0, 1) := by decide +kernel
theorem dX7_spoilWire_10 : decode cX7_spoilWire 10 = .ok (.putfield 104, 3) := by decide +kernel
theorem dX7_spoilWire_13 : decode cX7_spoilWire 13 = .ok (.aload_n 0, 1) := by decide +kernel
theorem dX7_spoilWire_14 : decode cX7_spoilWire 14 = .ok (.getfield 110, 3) := by decide +kernel
theorem dX7_spoilWire_17 : decode cX7_spoilWire 17 = .ok (.ifCond .ne 13, 3) := by decide +kernel
theorem dX7_spoilWire_20 : decode cX7_spoilWire 20 = .ok (.aload_n 0, 1) := by decide +kernel
theorem dX7_spoilWire_21 : decode cX7_spoilWire 21 = .ok (.getfield 19, 3) := by decide +kernel
theorem dX7_spoilWire_24 : decode cX7_spoilWire 24 = .ok (.invokevirtual 155, 3) := by decide +kernel
theorem dX7_spoilWire_27 : decode cX7_spoilWire 27 = .ok (.goto 18, 3) := by decide +kernel
theorem dX7_spoilWire_30 : decode cX7_spoilWire 30 = .ok (.aload_n 0, 1) := by decide +kernel
theorem dX7_spoilWire_31 : decode cX7_spoilWire 31 = .ok (.getfield 19, 3) := by decide +kernel
theorem dX7_spoilWire_34 : decode cX7_spoilWire 34 = .ok (.aload_n 0, 1) := by decide +kernel
theorem dX7_spoilWire_35 : decode cX7_spoilWire 35 = .ok (.getfield 107, 3) := by decide +kernel
theorem dX7_spoilWire_38 : decode cX7_spoilWire 38 = .ok (.aload_n 0, 1) := by decide +kernel
theorem dX7_spoilWire_39 : decode cX7_spoilWire 39 = .ok (.getfield 110, 3) := by decide +kernel
theorem dX7_spoilWire_42 : decode cX7_spoilWire 42 = .ok (.invokevirtual 158, 3) := by decide +kernel
theorem dX7_spoilWire_45 : decode cX7_spoilWire 45 = .ok (.return_, 1) := by decide +kernel
theorem dX7_askOf_0 : decode cX7_askOf 0 = .ok (.iload_n 0, 1) := by decide +kernel
theorem dX7_askOf_1 : decode cX7_askOf 1 = .ok (.ifCond .ne 8, 3) := by decide +kernel
theorem dX7_askOf_4 : decode cX7_askOf 4 = .ok (.bipush 21, 2) := by decide +kernel
theorem dX7_askOf_6 : decode cX7_askOf 6 = .ok (.goto 5, 3) := by decide +kernel
theorem dX7_askOf_9 : decode cX7_askOf 9 = .ok (.bipush 67, 2) := by decide +kernel
theorem dX7_askOf_11 : decode cX7_askOf 11 = .ok (.ireturn, 1) := by decide +kernel
theorem dX8_init_0 : decode cX8_init 0 = .ok (.aload_n 0, 1) := by decide +kernel
theorem dX8_init_1 : decode cX8_init 1 = .ok (.invokespecial 1, 3) := by decide +kernel
theorem dX8_init_4 : decode cX8_init 4 = .ok (.aload_n 0, 1) := by decide +kernel
theorem dX8_init_5 : decode cX8_init 5 = .ok (.iconst 0, 1) := by decide +kernel
theorem dX8_init_6 : decode cX8_init 6 = .ok (.putfield 7, 3) := by decide +kernel
theorem dX8_init_9 : decode cX8_init 9 = .ok (.aload_n 0, 1) := by decide +kernel
theorem dX8_init_10 : decode cX8_init 10 = .ok (.bipush 16, 2) := by decide +kernel
theorem dX8_init_12 : decode cX8_init 12 = .ok (.newarray .int, 2) := by decide +kernel
theorem dX8_init_14 : decode cX8_init 14 = .ok (.putfield 13, 3) := by decide +kernel
theorem dX8_init_17 : decode cX8_init 17 = .ok (.aload_n 0, 1) := by decide +kernel
theorem dX8_init_18 : decode cX8_init 18 = .ok (.sipush 3100, 3) := by decide +kernel
theorem dX8_init_21 : decode cX8_init 21 = .ok (.newarray .byte, 2) := by decide +kernel
theorem dX8_init_23 : decode cX8_init 23 = .ok (.putfield 17, 3) := by decide +kernel
theorem dX8_init_26 : decode cX8_init 26 = .ok (.aload_n 0, 1) := by decide +kernel
theorem dX8_init_27 : decode cX8_init 27 = .ok (.iconst 0, 1) := by decide +kernel
theorem dX8_init_28 : decode cX8_init 28 = .ok (.putfield 21, 3) := by decide +kernel
theorem dX8_init_31 : decode cX8_init 31 = .ok (.aload_n 0, 1) := by decide +kernel
theorem dX8_init_32 : decode cX8_init 32 = .ok (.iconst 0, 1) := by decide +kernel
theorem dX8_init_33 : decode cX8_init 33 = .ok (.putfield 24, 3) := by decide +kernel
theorem dX8_init_36 : decode cX8_init 36 = .ok (.aload_n 0, 1) := by decide +kernel
theorem dX8_init_37 : decode cX8_init 37 = .ok (.bipush 96, 2) := by decide +kernel
theorem dX8_init_39 : decode cX8_init 39 = .ok (.newarray .byte, 2) := by decide +kernel
theorem dX8_init_41 : decode cX8_init 41 = .ok (.putfield 27, 3) := by decide +kernel
theorem dX8_init_44 : decode cX8_init 44 = .ok (.aload_n 0, 1) := by decide +kernel
theorem dX8_init_45 : decode cX8_init 45 = .ok (.bipush 8, 2) := by decide +kernel
theorem dX8_init_47 : decode cX8_init 47 = .ok (.newarray .int, 2) := by decide +kernel
theorem dX8_init_49 : decode cX8_init 49 = .ok (.putfield 30, 3) := by decide +kernel
theorem dX8_init_52 : decode cX8_init 52 = .ok (.aload_n 0, 1) := by decide +kernel
theorem dX8_init_53 : decode cX8_init 53 = .ok (.sipush 24000, 3) := by decide +kernel
theorem dX8_init_56 : decode cX8_init 56 = .ok (.newarray .byte, 2) := by decide +kernel
theorem dX8_init_58 : decode cX8_init 58 = .ok (.putfield 33, 3) := by decide +kernel
theorem dX8_init_61 : decode cX8_init 61 = .ok (.aload_n 0, 1) := by decide +kernel
theorem dX8_init_62 : decode cX8_init 62 = .ok (.bipush 8, 2) := by decide +kernel
theorem dX8_init_64 : decode cX8_init 64 = .ok (.newarray .int, 2) := by decide +kernel
theorem dX8_init_66 : decode cX8_init 66 = .ok (.putfield 36, 3) := by decide +kernel
theorem dX8_init_69 : decode cX8_init 69 = .ok (.aload_n 0, 1) := by decide +kernel
theorem dX8_init_70 : decode cX8_init 70 = .ok (.iconst 0, 1) := by decide +kernel
theorem dX8_init_71 : decode cX8_init 71 = .ok (.putfield 39, 3) := by decide +kernel
theorem dX8_init_74 : decode cX8_init 74 = .ok (.aload_n 0, 1) := by decide +kernel
theorem dX8_init_75 : decode cX8_init 75 = .ok (.sipush 300, 3) := by decide +kernel
theorem dX8_init_78 : decode cX8_init 78 = .ok (.newarray .int, 2) := by decide +kernel
theorem dX8_init_80 : decode cX8_init 80 = .ok (.putfield 42, 3) := by decide +kernel
theorem dX8_init_83 : decode cX8_init 83 = .ok (.aload_n 0, 1) := by decide +kernel
theorem dX8_init_84 : decode cX8_init 84 = .ok (.sipush 300, 3) := by decide +kernel
theorem dX8_init_87 : decode cX8_init 87 = .ok (.newarray .int, 2) := by decide +kernel
theorem dX8_init_89 : decode cX8_init 89 = .ok (.putfield 45, 3) := by decide +kernel
theorem dX8_init_92 : decode cX8_init 92 = .ok (.aload_n 0, 1) := by decide +kernel
theorem dX8_init_93 : decode cX8_init 93 = .ok (.sipush 300, 3) := by decide +kernel
theorem dX8_init_96 : decode cX8_init 96 = .ok (.newarray .int, 2) := by decide +kernel
theorem dX8_init_98 : decode cX8_init 98 = .ok (.putfield 48, 3) := by decide +kernel
theorem dX8_init_101 : decode cX8_init 101 = .ok (.aload_n 0, 1) := by decide +kernel
theorem dX8_init_102 : decode cX8_init 102 = .ok (.sipush 300, 3) := by decide +kernel
theorem dX8_init_105 : decode cX8_init 105 = .ok (.newarray .int, 2) := by decide +kernel
theorem dX8_init_107 : decode cX8_init 107 = .ok (.putfield 51, 3) := by decide +kernel
theorem dX8_init_110 : decode cX8_init 110 = .ok (.aload_n 0, 1) := by decide +kernel
theorem dX8_init_111 : decode cX8_init 111 = .ok (.sipush 300, 3) := by decide +kernel
theorem dX8_init_114 : decode cX8_init 114 = .ok (.newarray .int, 2) := by decide +kernel
theorem dX8_init_116 : decode cX8_init 116 = .ok (.putfield 54, 3) := by decide +kernel
theorem dX8_init_119 : decode cX8_init 119 = .ok (.aload_n 0, 1) := by decide +kernel
theorem dX8_init_120 : decode cX8_init 120 = .ok (.iconst 0, 1) := by decide +kernel
theorem dX8_init_121 : decode cX8_init 121 = .ok (.putfield 57, 3) := by decide +kernel
theorem dX8_init_124 : decode cX8_init 124 = .ok (.aload_n 0, 1) := by decide +kernel
theorem dX8_init_125 : decode cX8_init 125 = .ok (.iconst 0, 1) := by decide +kernel
theorem dX8_init_126 : decode cX8_init 126 = .ok (.putfield 61, 3) := by decide +kernel
theorem dX8_init_129 : decode cX8_init 129 = .ok (.aload_n 0, 1) := by decide +kernel
theorem dX8_init_130 : decode cX8_init 130 = .ok (.iconst 0, 1) := by decide +kernel
theorem dX8_init_131 : decode cX8_init 131 = .ok (.putfield 64, 3) := by decide +kernel
theorem dX8_init_134 : decode cX8_init 134 = .ok (.aload_n 0, 1) := by decide +kernel
theorem dX8_init_135 : decode cX8_init 135 = .ok (.sipush 1040, 3) := by decide +kernel
theorem dX8_init_138 : decode cX8_init 138 = .ok (.newarray .byte, 2) := by decide +kernel
theorem dX8_init_140 : decode cX8_init 140 = .ok (.putfield 67, 3) := by decide +kernel
theorem dX8_init_143 : decode cX8_init 143 = .ok (.aload_n 0, 1) := by decide +kernel
theorem dX8_init_144 : decode cX8_init 144 = .ok (.iconst 0, 1) := by decide +kernel
theorem dX8_init_145 : decode cX8_init 145 = .ok (.putfield 70, 3) := by decide +kernel
theorem dX8_init_148 : decode cX8_init 148 = .ok (.aload_n 0, 1) := by decide +kernel
theorem dX8_init_149 : decode cX8_init 149 = .ok (.iconst 0, 1) := by decide +kernel
theorem dX8_init_150 : decode cX8_init 150 = .ok (.putfield 73, 3) := by decide +kernel
theorem dX8_init_153 : decode cX8_init 153 = .ok (.aload_n 0, 1) := by decide +kernel
theorem dX8_init_154 : decode cX8_init 154 = .ok (.iconst 0, 1) := by decide +kernel
theorem dX8_init_155 : decode cX8_init 155 = .ok (.putfield 76, 3) := by decide +kernel
theorem dX8_init_158 : decode cX8_init 158 = .ok (.aload_n 0, 1) := by decide +kernel
theorem dX8_init_159 : decode cX8_init 159 = .ok (.iconst 0, 1) := by decide +kernel
theorem dX8_init_160 : decode cX8_init 160 = .ok (.putfield 79, 3) := by decide +kernel
theorem dX8_init_163 : decode cX8_init 163 = .ok (.aload_n 0, 1) := by decide +kernel
theorem dX8_init_164 : decode cX8_init 164 = .ok (.iconst 0, 1) := by decide +kernel
theorem dX8_init_165 : decode cX8_init 165 = .ok (.putfield 82, 3) := by decide +kernel
theorem dX8_init_168 : decode cX8_init 168 = .ok (.aload_n 0, 1) := by decide +kernel
theorem dX8_init_169 : decode cX8_init 169 = .ok (.iconst 0, 1) := by decide +kernel
theorem dX8_init_170 : decode cX8_init 170 = .ok (.putfield 85, 3) := by decide +kernel
theorem dX8_init_173 : decode cX8_init 173 = .ok (.aload_n 0, 1) := by decide +kernel
theorem dX8_init_174 : decode cX8_init 174 = .ok (.iconst 0, 1) := by decide +kernel
theorem dX8_init_175 : decode cX8_init 175 = .ok (.putfield 88, 3) := by decide +kernel
theorem dX8_init_178 : decode cX8_init 178 = .ok (.aload_n 0, 1) := by decide +kernel
theorem dX8_init_179 : decode cX8_init 179 = .ok (.iconst 0, 1) := by decide +kernel
theorem dX8_init_180 : decode cX8_init 180 = .ok (.putfield 91, 3) := by decide +kernel
theorem dX8_init_183 : decode cX8_init 183 = .ok (.aload_n 0, 1) := by decide +kernel
theorem dX8_init_184 : decode cX8_init 184 = .ok (.iconst 0, 1) := by decide +kernel
theorem dX8_init_185 : decode cX8_init 185 = .ok (.putfield 94, 3) := by decide +kernel
theorem dX8_init_188 : decode cX8_init 188 = .ok (.aload_n 0, 1) := by decide +kernel
theorem dX8_init_189 : decode cX8_init 189 = .ok (.iconst 0, 1) := by decide +kernel
theorem dX8_init_190 : decode cX8_init 190 = .ok (.putfield 97, 3) := by decide +kernel
theorem dX8_init_193 : decode cX8_init 193 = .ok (.aload_n 0, 1) := by decide +kernel
theorem dX8_init_194 : decode cX8_init 194 = .ok (.iconst 0, 1) := by decide +kernel
theorem dX8_init_195 : decode cX8_init 195 = .ok (.putfield 100, 3) := by decide +kernel
theorem dX8_init_198 : decode cX8_init 198 = .ok (.aload_n 0, 1) := by decide +kernel
theorem dX8_init_199 : decode cX8_init 199 = .ok (.iconst 0, 1) := by decide +kernel
theorem dX8_init_200 : decode cX8_init 200 = .ok (.putfield 103, 3) := by decide +kernel
theorem dX8_init_203 : decode cX8_init 203 = .ok (.aload_n 0, 1) := by decide +kernel
theorem dX8_init_204 : decode cX8_init 204 = .ok (.iconst 0, 1) := by decide +kernel
theorem dX8_init_205 : decode cX8_init 205 = .ok (.putfield 106, 3) := by decide +kernel
theorem dX8_init_208 : decode cX8_init 208 = .ok (.aload_n 0, 1) := by decide +kernel
theorem dX8_init_209 : decode cX8_init 209 = .ok (.iconst 0, 1) := by decide +kernel
theorem dX8_init_210 : decode cX8_init 210 = .ok (.putfield 109, 3) := by decide +kernel
theorem dX8_init_213 : decode cX8_init 213 = .ok (.aload_n 0, 1) := by decide +kernel
theorem dX8_init_214 : decode cX8_init 214 = .ok (.iconst 0, 1) := by decide +kernel
theorem dX8_init_215 : decode cX8_init 215 = .ok (.putfield 112, 3) := by decide +kernel
theorem dX8_init_218 : decode cX8_init 218 = .ok (.aload_n 0, 1) := by decide +kernel
theorem dX8_init_219 : decode cX8_init 219 = .ok (.bipush 96, 2) := by decide +kernel
theorem dX8_init_221 : decode cX8_init 221 = .ok (.newarray .byte, 2) := by decide +kernel
theorem dX8_init_223 : decode cX8_init 223 = .ok (.putfield 115, 3) := by decide +kernel
theorem dX8_init_226 : decode cX8_init 226 = .ok (.aload_n 0, 1) := by decide +kernel
theorem dX8_init_227 : decode cX8_init 227 = .ok (.bipush 8, 2) := by decide +kernel
theorem dX8_init_229 : decode cX8_init 229 = .ok (.newarray .int, 2) := by decide +kernel
theorem dX8_init_231 : decode cX8_init 231 = .ok (.putfield 118, 3) := by decide +kernel
theorem dX8_init_234 : decode cX8_init 234 = .ok (.aload_n 0, 1) := by decide +kernel
theorem dX8_init_235 : decode cX8_init 235 = .ok (.sipush 28000, 3) := by decide +kernel
theorem dX8_init_238 : decode cX8_init 238 = .ok (.newarray .byte, 2) := by decide +kernel
theorem dX8_init_240 : decode cX8_init 240 = .ok (.putfield 121, 3) := by decide +kernel
theorem dX8_init_243 : decode cX8_init 243 = .ok (.aload_n 0, 1) := by decide +kernel
theorem dX8_init_244 : decode cX8_init 244 = .ok (.bipush 8, 2) := by decide +kernel
theorem dX8_init_246 : decode cX8_init 246 = .ok (.newarray .int, 2) := by decide +kernel
theorem dX8_init_248 : decode cX8_init 248 = .ok (.putfield 124, 3) := by decide +kernel
theorem dX8_init_251 : decode cX8_init 251 = .ok (.aload_n 0, 1) := by decide +kernel
theorem dX8_init_252 : decode cX8_init 252 = .ok (.iconst 0, 1) := by decide +kernel
theorem dX8_init_253 : decode cX8_init 253 = .ok (.putfield 127, 3) := by decide +kernel
theorem dX8_init_256 : decode cX8_init 256 = .ok (.iconst 0, 1) := by decide +kernel
theorem dX8_init_257 : decode cX8_init 257 = .ok (.istore_n 1, 1) := by decide +kernel
theorem dX8_init_258 : decode cX8_init 258 = .ok (.iload_n 1, 1) := by decide +kernel
theorem dX8_init_259 : decode cX8_init 259 = .ok (.bipush 16, 2) := by decide +kernel
theorem dX8_init_261 : decode cX8_init 261 = .ok (.if_icmp .ge 58, 3) := by decide +kernel
theorem dX8_init_264 : decode cX8_init 264 = .ok (.iload_n 1, 1) := by decide +kernel
theorem dX8_init_265 : decode cX8_init 265 = .ok (.bipush 12, 2) := by decide +kernel
theorem dX8_init_267 : decode cX8_init 267 = .ok (.ishl, 1) := by decide +kernel
theorem dX8_init_268 : decode cX8_init 268 = .ok (.istore_n 2, 1) := by decide +kernel
theorem dX8_init_269 : decode cX8_init 269 = .ok (.iconst 0, 1) := by decide +kernel
theorem dX8_init_270 : decode cX8_init 270 = .ok (.istore_n 3, 1) := by decide +kernel
theorem dX8_init_271 : decode cX8_init 271 = .ok (.iload_n 3, 1) := by decide +kernel
theorem dX8_init_272 : decode cX8_init 272 = .ok (.iconst 4, 1) := by decide +kernel
theorem dX8_init_273 : decode cX8_init 273 = .ok (.if_icmp .ge 30, 3) := by decide +kernel
theorem dX8_init_276 : decode cX8_init 276 = .ok (.iload_n 2, 1) := by decide +kernel
theorem dX8_init_277 : decode cX8_init 277 = .ok (.ldc 130, 2) := by decide +kernel
theorem dX8_init_279 : decode cX8_init 279 = .ok (.iand, 1) := by decide +kernel
theorem dX8_init_280 : decode cX8_init 280 = .ok (.ifCond .eq 13, 3) := by decide +kernel
theorem dX8_init_283 : decode cX8_init 283 = .ok (.iload_n 2, 1) := by decide +kernel
theorem dX8_init_284 : decode cX8_init 284 = .ok (.iconst 1, 1) := by decide +kernel
theorem dX8_init_285 : decode cX8_init 285 = .ok (.ishl, 1) := by decide +kernel
theorem dX8_init_286 : decode cX8_init 286 = .ok (.sipush 4129, 3) := by decide +kernel
theorem dX8_init_289 : decode cX8_init 289 = .ok (.ixor, 1) := by decide +kernel
theorem dX8_init_290 : decode cX8_init 290 = .ok (.goto 6, 3) := by decide +kernel
theorem dX8_init_293 : decode cX8_init 293 = .ok (.iload_n 2, 1) := by decide +kernel
theorem dX8_init_294 : decode cX8_init 294 = .ok (.iconst 1, 1) := by decide +kernel
theorem dX8_init_295 : decode cX8_init 295 = .ok (.ishl, 1) := by decide +kernel
theorem dX8_init_296 : decode cX8_init 296 = .ok (.istore_n 2, 1) := by decide +kernel
theorem dX8_init_297 : decode cX8_init 297 = .ok (.iinc 3 1, 3) := by decide +kernel
theorem dX8_init_300 : decode cX8_init 300 = .ok (.goto (-29), 3) := by decide +kernel
theorem dX8_init_303 : decode cX8_init 303 = .ok (.aload_n 0, 1) := by decide +kernel
theorem dX8_init_304 : decode cX8_init 304 = .ok (.getfield 13, 3) := by decide +kernel
theorem dX8_init_307 : decode cX8_init 307 = .ok (.iload_n 1, 1) := by decide +kernel
theorem dX8_init_308 : decode cX8_init 308 = .ok (.iload_n 2, 1) := by decide +kernel
theorem dX8_init_309 : decode cX8_init 309 = .ok (.ldc 131, 2) := by decide +kernel
theorem dX8_init_311 : decode cX8_init 311 = .ok (.iand, 1) := by decide +kernel
theorem dX8_init_312 : decode cX8_init 312 = .ok (.iastore, 1) := by decide +kernel
theorem dX8_init_313 : decode cX8_init 313 = .ok (.iinc 1 1, 3) := by decide +kernel
theorem dX8_init_316 : decode cX8_init 316 = .ok (.goto (-58), 3) := by decide +kernel
theorem dX8_init_319 : decode cX8_init 319 = .ok (.return_, 1) := by decide +kernel
theorem dX8_thrown_0 : decode cX8_thrown 0 = .ok (.aload_n 0, 1) := by decide +kernel
theorem dX8_thrown_1 : decode cX8_thrown 1 = .ok (.getfield 7, 3) := by decide +kernel
theorem dX8_thrown_4 : decode cX8_thrown 4 = .ok (.ireturn, 1) := by decide +kernel
theorem dX8_feed_0 : decode cX8_feed 0 = .ok (.aload_n 0, 1) := by decide +kernel
theorem dX8_feed_1 : decode cX8_feed 1 = .ok (.iconst 0, 1) := by decide +kernel
theorem dX8_feed_2 : decode cX8_feed 2 = .ok (.putfield 7, 3) := by decide +kernel
theorem dX8_feed_5 : decode cX8_feed 5 = .ok (.aload_n 0, 1) := by decide +kernel
theorem dX8_feed_6 : decode cX8_feed 6 = .ok (.getfield 21, 3) := by decide +kernel
theorem dX8_feed_9 : decode cX8_feed 9 = .ok (.bipush 20, 2) := by decide +kernel
theorem dX8_feed_11 : decode cX8_feed 11 = .ok (.iadd, 1) := by decide +kernel
theorem dX8_feed_12 : decode cX8_feed 12 = .ok (.sipush 3100, 3) := by decide +kernel
theorem dX8_feed_15 : decode cX8_feed 15 = .ok (.if_icmp .le 5, 3) := by decide +kernel
theorem dX8_feed_18 : decode cX8_feed 18 = .ok (.iconst 0, 1) := by decide +kernel
theorem dX8_feed_19 : decode cX8_feed 19 = .ok (.ireturn, 1) := by decide +kernel
theorem dX8_feed_20 : decode cX8_feed 20 = .ok (.iconst 0, 1) := by decide +kernel
theorem dX8_feed_21 : decode cX8_feed 21 = .ok (.istore 6, 2) := by decide +kernel
theorem dX8_feed_23 : decode cX8_feed 23 = .ok (.iload 6, 2) := by decide +kernel
theorem dX8_feed_25 : decode cX8_feed 25 = .ok (.bipush 20, 2) := by decide +kernel
theorem dX8_feed_27 : decode cX8_feed 27 = .ok (.if_icmp .ge 86, 3) := by decide +kernel
theorem dX8_feed_30 : decode cX8_feed 30 = .ok (.iload_n 1, 1) := by decide +kernel
theorem dX8_feed_31 : decode cX8_feed 31 = .ok (.istore 7, 2) := by decide +kernel
theorem dX8_feed_33 : decode cX8_feed 33 = .ok (.iload 6, 2) := by decide +kernel
theorem dX8_feed_35 : decode cX8_feed 35 = .ok (.iconst 4, 1) := by decide +kernel
theorem dX8_feed_36 : decode cX8_feed 36 = .ok (.if_icmp .lt 6, 3) := by decide +kernel
theorem dX8_feed_39 : decode cX8_feed 39 = .ok (.iload_n 2, 1) := by decide +kernel
theorem dX8_feed_40 : decode cX8_feed 40 = .ok (.istore 7, 2) := by decide +kernel
theorem dX8_feed_42 : decode cX8_feed 42 = .ok (.iload 6, 2) := by decide +kernel
theorem dX8_feed_44 : decode cX8_feed 44 = .ok (.bipush 8, 2) := by decide +kernel
theorem dX8_feed_46 : decode cX8_feed 46 = .ok (.if_icmp .lt 6, 3) := by decide +kernel
theorem dX8_feed_49 : decode cX8_feed 49 = .ok (.iload_n 3, 1) := by decide +kernel
theorem dX8_feed_50 : decode cX8_feed 50 = .ok (.istore 7, 2) := by decide +kernel
theorem dX8_feed_52 : decode cX8_feed 52 = .ok (.iload 6, 2) := by decide +kernel
theorem dX8_feed_54 : decode cX8_feed 54 = .ok (.bipush 12, 2) := by decide +kernel
theorem dX8_feed_56 : decode cX8_feed 56 = .ok (.if_icmp .lt 7, 3) := by decide +kernel
theorem dX8_feed_59 : decode cX8_feed 59 = .ok (.iload 4, 2) := by decide +kernel
theorem dX8_feed_61 : decode cX8_feed 61 = .ok (.istore 7, 2) := by decide +kernel
theorem dX8_feed_63 : decode cX8_feed 63 = .ok (.iload 6, 2) := by decide +kernel
theorem dX8_feed_65 : decode cX8_feed 65 = .ok (.bipush 16, 2) := by decide +kernel
theorem dX8_feed_67 : decode cX8_feed 67 = .ok (.if_icmp .lt 7, 3) := by decide +kernel
theorem dX8_feed_70 : decode cX8_feed 70 = .ok (.iload 5, 2) := by decide +kernel
theorem dX8_feed_72 : decode cX8_feed 72 = .ok (.istore 7, 2) := by decide +kernel
theorem dX8_feed_74 : decode cX8_feed 74 = .ok (.aload_n 0, 1) := by decide +kernel
theorem dX8_feed_75 : decode cX8_feed 75 = .ok (.getfield 17, 3) := by decide +kernel
theorem dX8_feed_78 : decode cX8_feed 78 = .ok (.aload_n 0, 1) := by decide +kernel
theorem dX8_feed_79 : decode cX8_feed 79 = .ok (.getfield 21, 3) := by decide +kernel
theorem dX8_feed_82 : decode cX8_feed 82 = .ok (.iload 7, 2) := by decide +kernel
theorem dX8_feed_84 : decode cX8_feed 84 = .ok (.bipush 24, 2) := by decide +kernel
theorem dX8_feed_86 : decode cX8_feed 86 = .ok (.bipush 8, 2) := by decide +kernel
theorem dX8_feed_88 : decode cX8_feed 88 = .ok (.iload 6, 2) := by decide +kernel
theorem dX8_feed_90 : decode cX8_feed 90 = .ok (.iconst 3, 1) := by decide +kernel
theorem dX8_feed_91 : decode cX8_feed 91 = .ok (.iand, 1) := by decide +kernel
theorem dX8_feed_92 : decode cX8_feed 92 = .ok (.imul, 1) := by decide +kernel
theorem dX8_feed_93 : decode cX8_feed 93 = .ok (.isub, 1) := by decide +kernel
theorem dX8_feed_94 : decode cX8_feed 94 = .ok (.ishr, 1) := by decide +kernel
theorem dX8_feed_95 : decode cX8_feed 95 = .ok (.i2b, 1) := by decide +kernel
theorem dX8_feed_96 : decode cX8_feed 96 = .ok (.bastore, 1) := by decide +kernel
theorem dX8_feed_97 : decode cX8_feed 97 = .ok (.aload_n 0, 1) := by decide +kernel
theorem dX8_feed_98 : decode cX8_feed 98 = .ok (.dup, 1) := by decide +kernel
theorem dX8_feed_99 : decode cX8_feed 99 = .ok (.getfield 21, 3) := by decide +kernel
theorem dX8_feed_102 : decode cX8_feed 102 = .ok (.iconst 1, 1) := by decide +kernel
theorem dX8_feed_103 : decode cX8_feed 103 = .ok (.iadd, 1) := by decide +kernel
theorem dX8_feed_104 : decode cX8_feed 104 = .ok (.putfield 21, 3) := by decide +kernel
theorem dX8_feed_107 : decode cX8_feed 107 = .ok (.iinc 6 1, 3) := by decide +kernel
theorem dX8_feed_110 : decode cX8_feed 110 = .ok (.goto (-87), 3) := by decide +kernel
theorem dX8_feed_113 : decode cX8_feed 113 = .ok (.iconst 1, 1) := by decide +kernel
theorem dX8_feed_114 : decode cX8_feed 114 = .ok (.ireturn, 1) := by decide +kernel
theorem dX8_end_0 : decode cX8_end 0 = .ok (.aload_n 0, 1) := by decide +kernel
theorem dX8_end_1 : decode cX8_end 1 = .ok (.iconst 0, 1) := by decide +kernel
theorem dX8_end_2 : decode cX8_end 2 = .ok (.putfield 7, 3) := by decide +kernel
theorem dX8_end_5 : decode cX8_end 5 = .ok (.iload_n 1, 1) := by decide +kernel
theorem dX8_end_6 : decode cX8_end 6 = .ok (.ifCond .lt 11, 3) := by decide +kernel
theorem dX8_end_9 : decode cX8_end 9 = .ok (.iload_n 1, 1) := by decide +kernel
theorem dX8_end_10 : decode cX8_end 10 = .ok (.aload_n 0, 1) := by decide +kernel
theorem dX8_end_11 : decode cX8_end 11 = .ok (.getfield 21, 3) := by decide +kernel
theorem dX8_end_14 : decode cX8_end 14 = .ok (.if_icmp .le 5, 3) := by decide +kernel
theorem dX8_end_17 : decode cX8_end 17 = .ok (.iconst 0, 1) := by decide +kernel
theorem dX8_end_18 : decode cX8_end 18 = .ok (.ireturn, 1) := by decide +kernel
theorem dX8_end_19 : decode cX8_end 19 = .ok (.aload_n 0, 1) := by decide +kernel
theorem dX8_end_20 : decode cX8_end 20 = .ok (.iload_n 1, 1) := by decide +kernel
theorem dX8_end_21 : decode cX8_end 21 = .ok (.putfield 21, 3) := by decide +kernel
theorem dX8_end_24 : decode cX8_end 24 = .ok (.iconst 1, 1) := by decide +kernel
theorem dX8_end_25 : decode cX8_end 25 = .ok (.ireturn, 1) := by decide +kernel
theorem dX8_file_0 : decode cX8_file 0 = .ok (.aload_n 0, 1) := by decide +kernel
theorem dX8_file_1 : decode cX8_file 1 = .ok (.iconst 0, 1) := by decide +kernel
theorem dX8_file_2 : decode cX8_file 2 = .ok (.putfield 7, 3) := by decide +kernel
theorem dX8_file_5 : decode cX8_file 5 = .ok (.aload_n 0, 1) := by decide +kernel
theorem dX8_file_6 : decode cX8_file 6 = .ok (.getfield 21, 3) := by decide +kernel
theorem dX8_file_9 : decode cX8_file 9 = .ok (.istore_n 1, 1) := by decide +kernel
theorem dX8_file_10 : decode cX8_file 10 = .ok (.aload_n 0, 1) := by decide +kernel
theorem dX8_file_11 : decode cX8_file 11 = .ok (.iconst 0, 1) := by decide +kernel
theorem dX8_file_12 : decode cX8_file 12 = .ok (.putfield 21, 3) := by decide +kernel
theorem dX8_file_15 : decode cX8_file 15 = .ok (.iconst 0, 1) := by decide +kernel
theorem dX8_file_16 : decode cX8_file 16 = .ok (.istore_n 2, 1) := by decide +kernel
theorem dX8_file_17 : decode cX8_file 17 = .ok (.iload_n 2, 1) := by decide +kernel
theorem dX8_file_18 : decode cX8_file 18 = .ok (.iload_n 1, 1) := by decide +kernel
theorem dX8_file_19 : decode cX8_file 19 = .ok (.if_icmp .ge 18, 3) := by decide +kernel
theorem dX8_file_22 : decode cX8_file 22 = .ok (.aload_n 0, 1) := by decide +kernel
theorem dX8_file_23 : decode cX8_file 23 = .ok (.getfield 17, 3) := by decide +kernel
theorem dX8_file_26 : decode cX8_file 26 = .ok (.iload_n 2, 1) := by decide +kernel
theorem dX8_file_27 : decode cX8_file 27 = .ok (.baload, 1) := by decide +kernel
theorem dX8_file_28 : decode cX8_file 28 = .ok (.ifCond .eq 9, 3) := by decide +kernel
theorem dX8_file_31 : decode cX8_file 31 = .ok (.iinc 2 1, 3) := by decide +kernel
theorem dX8_file_34 : decode cX8_file 34 = .ok (.goto (-17), 3) := by decide +kernel
theorem dX8_file_37 : decode cX8_file 37 = .ok (.iload_n 2, 1) := by decide +kernel
theorem dX8_file_38 : decode cX8_file 38 = .ok (.iload_n 1, 1) := by decide +kernel
theorem dX8_file_39 : decode cX8_file 39 = .ok (.if_icmp .eq 41, 3) := by decide +kernel
theorem dX8_file_42 : decode cX8_file 42 = .ok (.iload_n 2, 1) := by decide +kernel
theorem dX8_file_43 : decode cX8_file 43 = .ok (.iconst 1, 1) := by decide +kernel
theorem dX8_file_44 : decode cX8_file 44 = .ok (.if_icmp .lt 36, 3) := by decide +kernel
theorem dX8_file_47 : decode cX8_file 47 = .ok (.iload_n 2, 1) := by decide +kernel
theorem dX8_file_48 : decode cX8_file 48 = .ok (.bipush 12, 2) := by decide +kernel
theorem dX8_file_50 : decode cX8_file 50 = .ok (.if_icmp .gt 30, 3) := by decide +kernel
theorem dX8_file_53 : decode cX8_file 53 = .ok (.iload_n 1, 1) := by decide +kernel
theorem dX8_file_54 : decode cX8_file 54 = .ok (.iload_n 2, 1) := by decide +kernel
theorem dX8_file_55 : decode cX8_file 55 = .ok (.isub, 1) := by decide +kernel
theorem dX8_file_56 : decode cX8_file 56 = .ok (.iconst 1, 1) := by decide +kernel
theorem dX8_file_57 : decode cX8_file 57 = .ok (.isub, 1) := by decide +kernel
theorem dX8_file_58 : decode cX8_file 58 = .ok (.sipush 3000, 3) := by decide +kernel
theorem dX8_file_61 : decode cX8_file 61 = .ok (.if_icmp .gt 19, 3) := by decide +kernel
theorem dX8_file_64 : decode cX8_file 64 = .ok (.aload_n 0, 1) := by decide +kernel
theorem dX8_file_65 : decode cX8_file 65 = .ok (.getfield 24, 3) := by decide +kernel
theorem dX8_file_68 : decode cX8_file 68 = .ok (.bipush 8, 2) := by decide +kernel
theorem dX8_file_70 : decode cX8_file 70 = .ok (.if_icmp .eq 10, 3) := by decide +kernel
theorem dX8_file_73 : decode cX8_file 73 = .ok (.aload_n 0, 1) := by decide +kernel
theorem dX8_file_74 : decode cX8_file 74 = .ok (.getfield 57, 3) := by decide +kernel
theorem dX8_file_77 : decode cX8_file 77 = .ok (.ifCond .eq 5, 3) := by decide +kernel
theorem dX8_file_80 : decode cX8_file 80 = .ok (.iconst (-1), 1) := by decide +kernel
theorem dX8_file_81 : decode cX8_file 81 = .ok (.ireturn, 1) := by decide +kernel
theorem dX8_file_82 : decode cX8_file 82 = .ok (.iconst 0, 1) := by decide +kernel
theorem dX8_file_83 : decode cX8_file 83 = .ok (.istore_n 3, 1) := by decide +kernel
theorem dX8_file_84 : decode cX8_file 84 = .ok (.iload_n 3, 1) := by decide +kernel
theorem dX8_file_85 : decode cX8_file 85 = .ok (.iload_n 2, 1) := by decide +kernel
theorem dX8_file_86 : decode cX8_file 86 = .ok (.if_icmp .ge 29, 3) := by decide +kernel
theorem dX8_file_89 : decode cX8_file 89 = .ok (.aload_n 0, 1) := by decide +kernel
theorem dX8_file_90 : decode cX8_file 90 = .ok (.getfield 27, 3) := by decide +kernel
theorem dX8_file_93 : decode cX8_file 93 = .ok (.bipush 12, 2) := by decide +kernel
theorem dX8_file_95 : decode cX8_file 95 = .ok (.aload_n 0, 1) := by decide +kernel
theorem dX8_file_96 : decode cX8_file 96 = .ok (.getfield 24, 3) := by decide +kernel
theorem dX8_file_99 : decode cX8_file 99 = .ok (.imul, 1) := by decide +kernel
theorem dX8_file_100 : decode cX8_file 100 = .ok (.iload_n 3, 1) := by decide +kernel
theorem dX8_file_101 : decode cX8_file 101 = .ok (.iadd, 1) := by decide +kernel
theorem dX8_file_102 : decode cX8_file 102 = .ok (.aload_n 0, 1) := by decide +kernel
theorem dX8_file_103 : decode cX8_file 103 = .ok (.getfield 17, 3) := by decide +kernel
theorem dX8_file_106 : decode cX8_file 106 = .ok (.iload_n 3, 1) := by decide +kernel
theorem dX8_file_107 : decode cX8_file 107 = .ok (.baload, 1) := by decide +kernel
theorem dX8_file_108 : decode cX8_file 108 = .ok (.bastore, 1) := by decide +kernel
theorem dX8_file_109 : decode cX8_file 109 = .ok (.iinc 3 1, 3) := by decide +kernel
theorem dX8_file_112 : decode cX8_file 112 = .ok (.goto (-28), 3) := by decide +kernel
theorem dX8_file_115 : decode cX8_file 115 = .ok (.aload_n 0, 1) := by decide +kernel
theorem dX8_file_116 : decode cX8_file 116 = .ok (.getfield 30, 3) := by decide +kernel
theorem dX8_file_119 : decode cX8_file 119 = .ok (.aload_n 0, 1) := by decide +kernel
theorem dX8_file_120 : decode cX8_file 120 = .ok (.getfield 24, 3) := by decide +kernel
theorem dX8_file_123 : decode cX8_file 123 = .ok (.iload_n 2, 1) := by decide +kernel
theorem dX8_file_124 : decode cX8_file 124 = .ok (.iastore, 1) := by decide +kernel
theorem dX8_file_125 : decode cX8_file 125 = .ok (.aload_n 0, 1) := by decide +kernel
theorem dX8_file_126 : decode cX8_file 126 = .ok (.getfield 36, 3) := by decide +kernel
theorem dX8_file_129 : decode cX8_file 129 = .ok (.aload_n 0, 1) := by decide +kernel
theorem dX8_file_130 : decode cX8_file 130 = .ok (.getfield 24, 3) := by decide +kernel
theorem dX8_file_133 : decode cX8_file 133 = .ok (.iload_n 1, 1) := by decide +kernel
theorem dX8_file_134 : decode cX8_file 134 = .ok (.iload_n 2, 1) := by decide +kernel
theorem dX8_file_135 : decode cX8_file 135 = .ok (.isub, 1) := by decide +kernel
theorem dX8_file_136 : decode cX8_file 136 = .ok (.iconst 1, 1) := by decide +kernel
theorem dX8_file_137 : decode cX8_file 137 = .ok (.isub, 1) := by decide +kernel
theorem dX8_file_138 : decode cX8_file 138 = .ok (.iastore, 1) := by decide +kernel
theorem dX8_file_139 : decode cX8_file 139 = .ok (.iconst 0, 1) := by decide +kernel
theorem dX8_file_140 : decode cX8_file 140 = .ok (.istore_n 3, 1) := by decide +kernel
theorem dX8_file_141 : decode cX8_file 141 = .ok (.iload_n 3, 1) := by decide +kernel
theorem dX8_file_142 : decode cX8_file 142 = .ok (.aload_n 0, 1) := by decide +kernel
theorem dX8_file_143 : decode cX8_file 143 = .ok (.getfield 36, 3) := by decide +kernel
theorem dX8_file_146 : decode cX8_file 146 = .ok (.aload_n 0, 1) := by decide +kernel
theorem dX8_file_147 : decode cX8_file 147 = .ok (.getfield 24, 3) := by decide +kernel
theorem dX8_file_150 : decode cX8_file 150 = .ok (.iaload, 1) := by decide +kernel
theorem dX8_file_151 : decode cX8_file 151 = .ok (.if_icmp .ge 34, 3) := by decide +kernel
theorem dX8_file_154 : decode cX8_file 154 = .ok (.aload_n 0, 1) := by decide +kernel
theorem dX8_file_155 : decode cX8_file 155 = .ok (.getfield 33, 3) := by decide +kernel
theorem dX8_file_158 : decode cX8_file 158 = .ok (.sipush 3000, 3) := by decide +kernel
theorem dX8_file_161 : decode cX8_file 161 = .ok (.aload_n 0, 1) := by decide +kernel
theorem dX8_file_162 : decode cX8_file 162 = .ok (.getfield 24, 3) := by decide +kernel
theorem dX8_file_165 : decode cX8_file 165 = .ok (.imul, 1) := by decide +kernel
theorem dX8_file_166 : decode cX8_file 166 = .ok (.iload_n 3, 1) := by decide +kernel
theorem dX8_file_167 : decode cX8_file 167 = .ok (.iadd, 1) := by decide +kernel
theorem dX8_file_168 : decode cX8_file 168 = .ok (.aload_n 0, 1) := by decide +kernel
theorem dX8_file_169 : decode cX8_file 169 = .ok (.getfield 17, 3) := by decide +kernel
theorem dX8_file_172 : decode cX8_file 172 = .ok (.iload_n 2, 1) := by decide +kernel
theorem dX8_file_173 : decode cX8_file 173 = .ok (.iconst 1, 1) := by decide +kernel
theorem dX8_file_174 : decode cX8_file 174 = .ok (.iadd, 1) := by decide +kernel
theorem dX8_file_175 : decode cX8_file 175 = .ok (.iload_n 3, 1) := by decide +kernel
theorem dX8_file_176 : decode cX8_file 176 = .ok (.iadd, 1) := by decide +kernel
theorem dX8_file_177 : decode cX8_file 177 = .ok (.baload, 1) := by decide +kernel
theorem dX8_file_178 : decode cX8_file 178 = .ok (.bastore, 1) := by decide +kernel
theorem dX8_file_179 : decode cX8_file 179 = .ok (.iinc 3 1, 3) := by decide +kernel
theorem dX8_file_182 : decode cX8_file 182 = .ok (.goto (-41), 3) := by decide +kernel
theorem dX8_file_185 : decode cX8_file 185 = .ok (.aload_n 0, 1) := by decide +kernel
theorem dX8_file_186 : decode cX8_file 186 = .ok (.dup, 1) := by decide +kernel
theorem dX8_file_187 : decode cX8_file 187 = .ok (.getfield 24, 3) := by decide +kernel
theorem dX8_file_190 : decode cX8_file 190 = .ok (.iconst 1, 1) := by decide +kernel
theorem dX8_file_191 : decode cX8_file 191 = .ok (.iadd, 1) := by decide +kernel
theorem dX8_file_192 : decode cX8_file 192 = .ok (.putfield 24, 3) := by decide +kernel
theorem dX8_file_195 : decode cX8_file 195 = .ok (.aload_n 0, 1) := by decide +kernel
theorem dX8_file_196 : decode cX8_file 196 = .ok (.getfield 24, 3) := by decide +kernel
theorem dX8_file_199 : decode cX8_file 199 = .ok (.iconst 1, 1) := by decide +kernel
theorem dX8_file_200 : decode cX8_file 200 = .ok (.isub, 1) := by decide +kernel
theorem dX8_file_201 : decode cX8_file 201 = .ok (.ireturn, 1) := by decide +kernel
theorem dX8_made_0 : decode cX8_made 0 = .ok (.aload_n 0, 1) := by decide +kernel
theorem dX8_made_1 : decode cX8_made 1 = .ok (.iconst 0, 1) := by decide +kernel
theorem dX8_made_2 : decode cX8_made 2 = .ok (.putfield 7, 3) := by decide +kernel
theorem dX8_made_5 : decode cX8_made 5 = .ok (.iload_n 1, 1) := by decide +kernel
theorem dX8_made_6 : decode cX8_made 6 = .ok (.ifCond .lt 26, 3) := by decide +kernel
theorem dX8_made_9 : decode cX8_made 9 = .ok (.iload_n 1, 1) := by decide +kernel
theorem dX8_made_10 : decode cX8_made 10 = .ok (.sipush 3000, 3) := by decide +kernel
theorem dX8_made_13 : decode cX8_made 13 = .ok (.if_icmp .gt 19, 3) := by decide +kernel
theorem dX8_made_16 : decode cX8_made 16 = .ok (.aload_n 0, 1) := by decide +kernel
theorem dX8_made_17 : decode cX8_made 17 = .ok (.getfield 24, 3) := by decide +kernel
theorem dX8_made_20 : decode cX8_made 20 = .ok (.bipush 8, 2) := by decide +kernel
theorem dX8_made_22 : decode cX8_made 22 = .ok (.if_icmp .eq 10, 3) := by decide +kernel
theorem dX8_made_25 : decode cX8_made 25 = .ok (.aload_n 0, 1) := by decide +kernel
theorem dX8_made_26 : decode cX8_made 26 = .ok (.getfield 57, 3) := by decide +kernel
theorem dX8_made_29 : decode cX8_made 29 = .ok (.ifCond .eq 5, 3) := by decide +kernel
theorem dX8_made_32 : decode cX8_made 32 = .ok (.iconst (-1), 1) := by decide +kernel
theorem dX8_made_33 : decode cX8_made 33 = .ok (.ireturn, 1) := by decide +kernel
theorem dX8_made_34 : decode cX8_made 34 = .ok (.aload_n 0, 1) := by decide +kernel
theorem dX8_made_35 : decode cX8_made 35 = .ok (.getfield 27, 3) := by decide +kernel
theorem dX8_made_38 : decode cX8_made 38 = .ok (.bipush 12, 2) := by decide +kernel
theorem dX8_made_40 : decode cX8_made 40 = .ok (.aload_n 0, 1) := by decide +kernel
theorem dX8_made_41 : decode cX8_made 41 = .ok (.getfield 24, 3) := by decide +kernel
theorem dX8_made_44 : decode cX8_made 44 = .ok (.imul, 1) := by decide +kernel
theorem dX8_made_45 : decode cX8_made 45 = .ok (.bipush 102, 2) := by decide +kernel
theorem dX8_made_47 : decode cX8_made 47 = .ok (.bastore, 1) := by decide +kernel
theorem dX8_made_48 : decode cX8_made 48 = .ok (.aload_n 0, 1) := by decide +kernel
theorem dX8_made_49 : decode cX8_made 49 = .ok (.getfield 30, 3) := by decide +kernel
theorem dX8_made_52 : decode cX8_made 52 = .ok (.aload_n 0, 1) := by decide +kernel
theorem dX8_made_53 : decode cX8_made 53 = .ok (.getfield 24, 3) := by decide +kernel
theorem dX8_made_56 : decode cX8_made 56 = .ok (.iconst 1, 1) := by decide +kernel
theorem dX8_made_57 : decode cX8_made 57 = .ok (.iastore, 1) := by decide +kernel
theorem dX8_made_58 : decode cX8_made 58 = .ok (.aload_n 0, 1) := by decide +kernel
theorem dX8_made_59 : decode cX8_made 59 = .ok (.getfield 36, 3) := by decide +kernel
theorem dX8_made_62 : decode cX8_made 62 = .ok (.aload_n 0, 1) := by decide +kernel
theorem dX8_made_63 : decode cX8_made 63 = .ok (.getfield 24, 3) := by decide +kernel
theorem dX8_made_66 : decode cX8_made 66 = .ok (.iload_n 1, 1) := by decide +kernel
theorem dX8_made_67 : decode cX8_made 67 = .ok (.iastore, 1) := by decide +kernel
theorem dX8_made_68 : decode cX8_made 68 = .ok (.iconst 0, 1) := by decide +kernel
theorem dX8_made_69 : decode cX8_made 69 = .ok (.istore_n 3, 1) := by decide +kernel
theorem dX8_made_70 : decode cX8_made 70 = .ok (.iload_n 3, 1) := by decide +kernel
theorem dX8_made_71 : decode cX8_made 71 = .ok (.iload_n 1, 1) := by decide +kernel
theorem dX8_made_72 : decode cX8_made 72 = .ok (.if_icmp .ge 30, 3) := by decide +kernel
theorem dX8_made_75 : decode cX8_made 75 = .ok (.aload_n 0, 1) := by decide +kernel
theorem dX8_made_76 : decode cX8_made 76 = .ok (.getfield 33, 3) := by decide +kernel
theorem dX8_made_79 : decode cX8_made 79 = .ok (.sipush 3000, 3) := by decide +kernel
theorem dX8_made_82 : decode cX8_made 82 = .ok (.aload_n 0, 1) := by decide +kernel
theorem dX8_made_83 : decode cX8_made 83 = .ok (.getfield 24, 3) := by decide +kernel
theorem dX8_made_86 : decode cX8_made 86 = .ok (.imul, 1) := by decide +kernel
theorem dX8_made_87 : decode cX8_made 87 = .ok (.iload_n 3, 1) := by decide +kernel
theorem dX8_made_88 : decode cX8_made 88 = .ok (.iadd, 1) := by decide +kernel
theorem dX8_made_89 : decode cX8_made 89 = .ok (.iload_n 2, 1) := by decide +kernel
theorem dX8_made_90 : decode cX8_made 90 = .ok (.iconst 5, 1) := by decide +kernel
theorem dX8_made_91 : decode cX8_made 91 = .ok (.iload_n 3, 1) := by decide +kernel
theorem dX8_made_92 : decode cX8_made 92 = .ok (.imul, 1) := by decide +kernel
theorem dX8_made_93 : decode cX8_made 93 = .ok (.iadd, 1) := by decide +kernel
theorem dX8_made_94 : decode cX8_made 94 = .ok (.i2b, 1) := by decide +kernel
theorem dX8_made_95 : decode cX8_made 95 = .ok (.bastore, 1) := by decide +kernel
theorem dX8_made_96 : decode cX8_made 96 = .ok (.iinc 3 1, 3) := by decide +kernel
theorem dX8_made_99 : decode cX8_made 99 = .ok (.goto (-29), 3) := by decide +kernel
theorem dX8_made_102 : decode cX8_made 102 = .ok (.aload_n 0, 1) := by decide +kernel
theorem dX8_made_103 : decode cX8_made 103 = .ok (.dup, 1) := by decide +kernel
theorem dX8_made_104 : decode cX8_made 104 = .ok (.getfield 24, 3) := by decide +kernel
theorem dX8_made_107 : decode cX8_made 107 = .ok (.iconst 1, 1) := by decide +kernel
theorem dX8_made_108 : decode cX8_made 108 = .ok (.iadd, 1) := by decide +kernel
theorem dX8_made_109 : decode cX8_made 109 = .ok (.putfield 24, 3) := by decide +kernel
theorem dX8_made_112 : decode cX8_made 112 = .ok (.aload_n 0, 1) := by decide +kernel
theorem dX8_made_113 : decode cX8_made 113 = .ok (.getfield 24, 3) := by decide +kernel
theorem dX8_made_116 : decode cX8_made 116 = .ok (.iconst 1, 1) := by decide +kernel
theorem dX8_made_117 : decode cX8_made 117 = .ok (.isub, 1) := by decide +kernel
theorem dX8_made_118 : decode cX8_made 118 = .ok (.ireturn, 1) := by decide +kernel
theorem dX8_clear_0 : decode cX8_clear 0 = .ok (.aload_n 0, 1) := by decide +kernel
theorem dX8_clear_1 : decode cX8_clear 1 = .ok (.iconst 0, 1) := by decide +kernel
theorem dX8_clear_2 : decode cX8_clear 2 = .ok (.putfield 7, 3) := by decide +kernel
theorem dX8_clear_5 : decode cX8_clear 5 = .ok (.aload_n 0, 1) := by decide +kernel
theorem dX8_clear_6 : decode cX8_clear 6 = .ok (.getfield 57, 3) := by decide +kernel
theorem dX8_clear_9 : decode cX8_clear 9 = .ok (.ifCond .eq 5, 3) := by decide +kernel
theorem dX8_clear_12 : decode cX8_clear 12 = .ok (.iconst 0, 1) := by decide +kernel
theorem dX8_clear_13 : decode cX8_clear 13 = .ok (.ireturn, 1) := by decide +kernel
theorem dX8_clear_14 : decode cX8_clear 14 = .ok (.aload_n 0, 1) := by decide +kernel
theorem dX8_clear_15 : decode cX8_clear 15 = .ok (.iconst 0, 1) := by decide +kernel
theorem dX8_clear_16 : decode cX8_clear 16 = .ok (.putfield 24, 3) := by decide +kernel
theorem dX8_clear_19 : decode cX8_clear 19 = .ok (.iconst 1, 1) := by decide +kernel
theorem dX8_clear_20 : decode cX8_clear 20 = .ok (.ireturn, 1) := by decide +kernel
theorem dX8_unitOf_0 : decode cX8_unitOf 0 = .ok (.aload_n 0, 1) := by decide +kernel
theorem dX8_unitOf_1 : decode cX8_unitOf 1 = .ok (.getfield 42, 3) := by decide +kernel
theorem dX8_unitOf_4 : decode cX8_unitOf 4 = .ok (.aload_n 0, 1) := by decide +kernel
theorem dX8_unitOf_5 : decode cX8_unitOf 5 = .ok (.getfield 39, 3) := by decide +kernel
theorem dX8_unitOf_8 : decode cX8_unitOf 8 = .ok (.iload_n 1, 1) := by decide +kernel
theorem dX8_unitOf_9 : decode cX8_unitOf 9 = .ok (.iastore, 1) := by decide +kernel
theorem dX8_unitOf_10 : decode cX8_unitOf 10 = .ok (.aload_n 0, 1) := by decide +kernel
theorem dX8_unitOf_11 : decode cX8_unitOf 11 = .ok (.getfield 45, 3) := by decide +kernel
theorem dX8_unitOf_14 : decode cX8_unitOf 14 = .ok (.aload_n 0, 1) := by decide +kernel
theorem dX8_unitOf_15 : decode cX8_unitOf 15 = .ok (.getfield 39, 3) := by decide +kernel
theorem dX8_unitOf_18 : decode cX8_unitOf 18 = .ok (.iload_n 2, 1) := by decide +kernel
theorem dX8_unitOf_19 : decode cX8_unitOf 19 = .ok (.iastore, 1) := by decide +kernel
theorem dX8_unitOf_20 : decode cX8_unitOf 20 = .ok (.aload_n 0, 1) := by decide +kernel
theorem dX8_unitOf_21 : decode cX8_unitOf 21 = .ok (.getfield 48, 3) := by decide +kernel
theorem dX8_unitOf_24 : decode cX8_unitOf 24 = .ok (.aload_n 0, 1) := by decide +kernel
theorem dX8_unitOf_25 : decode cX8_unitOf 25 = .ok (.getfield 39, 3) := by decide +kernel
theorem dX8_unitOf_28 : decode cX8_unitOf 28 = .ok (.iload_n 3, 1) := by decide +kernel
theorem dX8_unitOf_29 : decode cX8_unitOf 29 = .ok (.iastore, 1) := by decide +kernel
theorem dX8_unitOf_30 : decode cX8_unitOf 30 = .ok (.aload_n 0, 1) := by decide +kernel
theorem dX8_unitOf_31 : decode cX8_unitOf 31 = .ok (.getfield 51, 3) := by decide +kernel
theorem dX8_unitOf_34 : decode cX8_unitOf 34 = .ok (.aload_n 0, 1) := by decide +kernel
theorem dX8_unitOf_35 : decode cX8_unitOf 35 = .ok (.getfield 39, 3) := by decide +kernel
theorem dX8_unitOf_38 : decode cX8_unitOf 38 = .ok (.iload 4, 2) := by decide +kernel
theorem dX8_unitOf_40 : decode cX8_unitOf 40 = .ok (.iastore, 1) := by decide +kernel
theorem dX8_unitOf_41 : decode cX8_unitOf 41 = .ok (.aload_n 0, 1) := by decide +kernel
theorem dX8_unitOf_42 : decode cX8_unitOf 42 = .ok (.getfield 54, 3) := by decide +kernel
theorem dX8_unitOf_45 : decode cX8_unitOf 45 = .ok (.aload_n 0, 1) := by decide +kernel
theorem dX8_unitOf_46 : decode cX8_unitOf 46 = .ok (.getfield 39, 3) := by decide +kernel
theorem dX8_unitOf_49 : decode cX8_unitOf 49 = .ok (.iload 5, 2) := by decide +kernel
theorem dX8_unitOf_51 : decode cX8_unitOf 51 = .ok (.sipush 255, 3) := by decide +kernel
theorem dX8_unitOf_54 : decode cX8_unitOf 54 = .ok (.iand, 1) := by decide +kernel
theorem dX8_unitOf_55 : decode cX8_unitOf 55 = .ok (.iastore, 1) := by decide +kernel
theorem dX8_unitOf_56 : decode cX8_unitOf 56 = .ok (.aload_n 0, 1) := by decide +kernel
theorem dX8_unitOf_57 : decode cX8_unitOf 57 = .ok (.dup, 1) := by decide +kernel
theorem dX8_unitOf_58 : decode cX8_unitOf 58 = .ok (.getfield 39, 3) := by decide +kernel
theorem dX8_unitOf_61 : decode cX8_unitOf 61 = .ok (.iconst 1, 1) := by decide +kernel
theorem dX8_unitOf_62 : decode cX8_unitOf 62 = .ok (.iadd, 1) := by decide +kernel
theorem dX8_unitOf_63 : decode cX8_unitOf 63 = .ok (.putfield 39, 3) := by decide +kernel
theorem dX8_unitOf_66 : decode cX8_unitOf 66 = .ok (.return_, 1) := by decide +kernel
set_option maxRecDepth 20000 in
theorem ggX8_layOut_X8_unitOf : GoodIn wsX8_layOut wsX8_unitOf := goodIn_r _ [9, 10, 1, 11, 12, 13, 14, 15, 16, 17, 18, 19, 20, 21, 22, 23, 24, 25, 26, 27, 28, 29, 30, 31, 32, 33, 34, 35, 36, 37, 38, 39, 40, 41, 42, 43, 44, 45, 46, 47, 48, 49, 50, 51, 52, 53] (by decide +kernel) (by decide +kernel)
set_option maxRecDepth 20000 in
theorem gX8_layOut_X8_unitOf : GoodIn wsX8_layOut (wsV RX8 132 RX8 yX8_unitOf wsX8_unitOf) := goodIn_app (goodIn_of _ (by decide +kernel)) ggX8_layOut_X8_unitOf
theorem dX8_layOut_0 : decode cX8_layOut 0 = .ok (.aload_n 0, 1) := by decide +kernel
theorem dX8_layOut_1 : decode cX8_layOut 1 = .ok (.iconst 0, 1) := by decide +kernel
theorem dX8_layOut_2 : decode cX8_layOut 2 = .ok (.putfield 39, 3) := by decide +kernel
theorem dX8_layOut_5 : decode cX8_layOut 5 = .ok (.aload_n 0, 1) := by decide +kernel
theorem dX8_layOut_6 : decode cX8_layOut 6 = .ok (.getfield 64, 3) := by decide +kernel
theorem dX8_layOut_9 : decode cX8_layOut 9 = .ok (.iconst 3, 1) := by decide +kernel
theorem dX8_layOut_10 : decode cX8_layOut 10 = .ok (.if_icmp .ne 10, 3) := by decide +kernel
theorem dX8_layOut_13 : decode cX8_layOut 13 = .ok (.aload_n 0, 1) := by decide +kernel
theorem dX8_layOut_14 : decode cX8_layOut 14 = .ok (.getfield 24, 3) := by decide +kernel
theorem dX8_layOut_17 : decode cX8_layOut 17 = .ok (.goto 4, 3) := by decide +kernel
theorem dX8_layOut_20 : decode cX8_layOut 20 = .ok (.iconst 1, 1) := by decide +kernel
theorem dX8_layOut_21 : decode cX8_layOut 21 = .ok (.istore_n 1, 1) := by decide +kernel
theorem dX8_layOut_22 : decode cX8_layOut 22 = .ok (.iconst 0, 1) := by decide +kernel
theorem dX8_layOut_23 : decode cX8_layOut 23 = .ok (.istore_n 2, 1) := by decide +kernel
theorem dX8_layOut_24 : decode cX8_layOut 24 = .ok (.iload_n 2, 1) := by decide +kernel
theorem dX8_layOut_25 : decode cX8_layOut 25 = .ok (.iload_n 1, 1) := by decide +kernel
theorem dX8_layOut_26 : decode cX8_layOut 26 = .ok (.if_icmp .ge 107, 3) := by decide +kernel
theorem dX8_layOut_29 : decode cX8_layOut 29 = .ok (.aload_n 0, 1) := by decide +kernel
theorem dX8_layOut_30 : decode cX8_layOut 30 = .ok (.getfield 64, 3) := by decide +kernel
theorem dX8_layOut_33 : decode cX8_layOut 33 = .ok (.iconst 3, 1) := by decide +kernel
theorem dX8_layOut_34 : decode cX8_layOut 34 = .ok (.if_icmp .ne 14, 3) := by decide +kernel
theorem dX8_layOut_37 : decode cX8_layOut 37 = .ok (.aload_n 0, 1) := by decide +kernel
theorem dX8_layOut_38 : decode cX8_layOut 38 = .ok (.iconst 2, 1) := by decide +kernel
theorem dX8_layOut_39 : decode cX8_layOut 39 = .ok (.iload_n 2, 1) := by decide +kernel
theorem dX8_layOut_40 : decode cX8_layOut 40 = .ok (.iconst 0, 1) := by decide +kernel
theorem dX8_layOut_41 : decode cX8_layOut 41 = .ok (.sipush 128, 3) := by decide +kernel
theorem dX8_layOut_44 : decode cX8_layOut 44 = .ok (.iconst 0, 1) := by decide +kernel
theorem dX8_layOut_45 : decode cX8_layOut 45 = .ok (.invokevirtual 132, 3) := by decide +kernel
theorem dX8_layOut_48 : decode cX8_layOut 48 = .ok (.iconst 0, 1) := by decide +kernel
theorem dX8_layOut_49 : decode cX8_layOut 49 = .ok (.istore_n 3, 1) := by decide +kernel
theorem dX8_layOut_50 : decode cX8_layOut 50 = .ok (.iconst 1, 1) := by decide +kernel
theorem dX8_layOut_51 : decode cX8_layOut 51 = .ok (.istore 4, 2) := by decide +kernel
theorem dX8_layOut_53 : decode cX8_layOut 53 = .ok (.iload_n 3, 1) := by decide +kernel
theorem dX8_layOut_54 : decode cX8_layOut 54 = .ok (.aload_n 0, 1) := by decide +kernel
theorem dX8_layOut_55 : decode cX8_layOut 55 = .ok (.getfield 36, 3) := by decide +kernel
theorem dX8_layOut_58 : decode cX8_layOut 58 = .ok (.iload_n 2, 1) := by decide +kernel
theorem dX8_layOut_59 : decode cX8_layOut 59 = .ok (.iaload, 1) := by decide +kernel
theorem dX8_layOut_60 : decode cX8_layOut 60 = .ok (.if_icmp .ge 58, 3) := by decide +kernel
theorem dX8_layOut_63 : decode cX8_layOut 63 = .ok (.aload_n 0, 1) := by decide +kernel
theorem dX8_layOut_64 : decode cX8_layOut 64 = .ok (.getfield 64, 3) := by decide +kernel
theorem dX8_layOut_67 : decode cX8_layOut 67 = .ok (.iconst 2, 1) := by decide +kernel
theorem dX8_layOut_68 : decode cX8_layOut 68 = .ok (.if_icmp .lt 23, 3) := by decide +kernel
theorem dX8_layOut_71 : decode cX8_layOut 71 = .ok (.aload_n 0, 1) := by decide +kernel
theorem dX8_layOut_72 : decode cX8_layOut 72 = .ok (.getfield 36, 3) := by decide +kernel
theorem dX8_layOut_75 : decode cX8_layOut 75 = .ok (.iload_n 2, 1) := by decide +kernel
theorem dX8_layOut_76 : decode cX8_layOut 76 = .ok (.iaload, 1) := by decide +kernel
theorem dX8_layOut_77 : decode cX8_layOut 77 = .ok (.iload_n 3, 1) := by decide +kernel
theorem dX8_layOut_78 : decode cX8_layOut 78 = .ok (.isub, 1) := by decide +kernel
theorem dX8_layOut_79 : decode cX8_layOut 79 = .ok (.sipush 896, 3) := by decide +kernel
theorem dX8_layOut_82 : decode cX8_layOut 82 = .ok (.if_icmp .le 9, 3) := by decide +kernel
theorem dX8_layOut_85 : decode cX8_layOut 85 = .ok (.sipush 1024, 3) := by decide +kernel
theorem dX8_layOut_88 : decode cX8_layOut 88 = .ok (.goto 6, 3) := by decide +kernel
theorem dX8_layOut_91 : decode cX8_layOut 91 = .ok (.sipush 128, 3) := by decide +kernel
theorem dX8_layOut_94 : decode cX8_layOut 94 = .ok (.istore 5, 2) := by decide +kernel
theorem dX8_layOut_96 : decode cX8_layOut 96 = .ok (.aload_n 0, 1) := by decide +kernel
theorem dX8_layOut_97 : decode cX8_layOut 97 = .ok (.iconst 0, 1) := by decide +kernel
theorem dX8_layOut_98 : decode cX8_layOut 98 = .ok (.iload_n 2, 1) := by decide +kernel
theorem dX8_layOut_99 : decode cX8_layOut 99 = .ok (.iload_n 3, 1) := by decide +kernel
theorem dX8_layOut_100 : decode cX8_layOut 100 = .ok (.iload 5, 2) := by decide +kernel
theorem dX8_layOut_102 : decode cX8_layOut 102 = .ok (.iload 4, 2) := by decide +kernel
theorem dX8_layOut_104 : decode cX8_layOut 104 = .ok (.invokevirtual 132, 3) := by decide +kernel
theorem dX8_layOut_107 : decode cX8_layOut 107 = .ok (.iinc 4 1, 3) := by decide +kernel
theorem dX8_layOut_110 : decode cX8_layOut 110 = .ok (.iload_n 3, 1) := by decide +kernel
theorem dX8_layOut_111 : decode cX8_layOut 111 = .ok (.iload 5, 2) := by decide +kernel
theorem dX8_layOut_113 : decode cX8_layOut 113 = .ok (.iadd, 1) := by decide +kernel
theorem dX8_layOut_114 : decode cX8_layOut 114 = .ok (.istore_n 3, 1) := by decide +kernel
theorem dX8_layOut_115 : decode cX8_layOut 115 = .ok (.goto (-62), 3) := by decide +kernel
theorem dX8_layOut_118 : decode cX8_layOut 118 = .ok (.aload_n 0, 1) := by decide +kernel
theorem dX8_layOut_119 : decode cX8_layOut 119 = .ok (.iconst 1, 1) := by decide +kernel
theorem dX8_layOut_120 : decode cX8_layOut 120 = .ok (.iload_n 2, 1) := by decide +kernel
theorem dX8_layOut_121 : decode cX8_layOut 121 = .ok (.iconst 0, 1) := by decide +kernel
theorem dX8_layOut_122 : decode cX8_layOut 122 = .ok (.iconst 0, 1) := by decide +kernel
theorem dX8_layOut_123 : decode cX8_layOut 123 = .ok (.iconst 0, 1) := by decide +kernel
theorem dX8_layOut_124 : decode cX8_layOut 124 = .ok (.invokevirtual 132, 3) := by decide +kernel
theorem dX8_layOut_127 : decode cX8_layOut 127 = .ok (.iinc 2 1, 3) := by decide +kernel
theorem dX8_layOut_130 : decode cX8_layOut 130 = .ok (.goto (-106), 3) := by decide +kernel
theorem dX8_layOut_133 : decode cX8_layOut 133 = .ok (.aload_n 0, 1) := by decide +kernel
theorem dX8_layOut_134 : decode cX8_layOut 134 = .ok (.getfield 64, 3) := by decide +kernel
theorem dX8_layOut_137 : decode cX8_layOut 137 = .ok (.iconst 3, 1) := by decide +kernel
theorem dX8_layOut_138 : decode cX8_layOut 138 = .ok (.if_icmp .ne 14, 3) := by decide +kernel
theorem dX8_layOut_141 : decode cX8_layOut 141 = .ok (.aload_n 0, 1) := by decide +kernel
theorem dX8_layOut_142 : decode cX8_layOut 142 = .ok (.iconst 3, 1) := by decide +kernel
theorem dX8_layOut_143 : decode cX8_layOut 143 = .ok (.iconst 0, 1) := by decide +kernel
theorem dX8_layOut_144 : decode cX8_layOut 144 = .ok (.iconst 0, 1) := by decide +kernel
theorem dX8_layOut_145 : decode cX8_layOut 145 = .ok (.sipush 128, 3) := by decide +kernel
theorem dX8_layOut_148 : decode cX8_layOut 148 = .ok (.iconst 0, 1) := by decide +kernel
theorem dX8_layOut_149 : decode cX8_layOut 149 = .ok (.invokevirtual 132, 3) := by decide +kernel
theorem dX8_layOut_152 : decode cX8_layOut 152 = .ok (.return_, 1) := by decide +kernel
theorem dX8_byteOn_0 : decode cX8_byteOn 0 = .ok (.aload_n 0, 1) := by decide +kernel
theorem dX8_byteOn_1 : decode cX8_byteOn 1 = .ok (.getfield 67, 3) := by decide +kernel
theorem dX8_byteOn_4 : decode cX8_byteOn 4 = .ok (.iconst 0, 1) := by decide +kernel
theorem dX8_byteOn_5 : decode cX8_byteOn 5 = .ok (.iload_n 1, 1) := by decide +kernel
theorem dX8_byteOn_6 : decode cX8_byteOn 6 = .ok (.i2b, 1) := by decide +kernel
theorem dX8_byteOn_7 : decode cX8_byteOn 7 = .ok (.bastore, 1) := by decide +kernel
theorem dX8_byteOn_8 : decode cX8_byteOn 8 = .ok (.aload_n 0, 1) := by decide +kernel
theorem dX8_byteOn_9 : decode cX8_byteOn 9 = .ok (.iconst 1, 1) := by decide +kernel
theorem dX8_byteOn_10 : decode cX8_byteOn 10 = .ok (.putfield 70, 3) := by decide +kernel
theorem dX8_byteOn_13 : decode cX8_byteOn 13 = .ok (.return_, 1) := by decide +kernel
theorem dX8_check_0 : decode cX8_check 0 = .ok (.iconst 0, 1) := by decide +kernel
theorem dX8_check_1 : decode cX8_check 1 = .ok (.istore_n 3, 1) := by decide +kernel
