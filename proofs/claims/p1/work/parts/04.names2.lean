theorem wsL_law_in0 : ∀ w ∈ wsL_law0, w ∈ lw_tbl := (List.forall_mem_append.mpr ⟨(List.forall_mem_append.mpr ⟨(List.forall_mem_append.mpr ⟨(List.forall_mem_append.mpr ⟨(List.forall_mem_append.mpr ⟨(List.forall_mem_append.mpr ⟨(List.forall_mem_append.mpr ⟨(List.forall_mem_append.mpr ⟨(List.forall_mem_append.mpr ⟨lwin_wsL_law0_r1, (List.forall_mem_append.mpr ⟨lwin_wsL_law0_r2, (List.forall_mem_append.mpr ⟨lwin_wsL_law0_r3, (List.forall_mem_append.mpr ⟨lwin_wsL_law0_r4, (List.forall_mem_append.mpr ⟨lwin_wsL_law0_r5, (List.forall_mem_append.mpr ⟨lwin_wsL_law0_r6, (List.forall_mem_append.mpr ⟨lwin_wsL_law0_r7, (List.forall_mem_append.mpr ⟨lwin_wsL_law0_r8, (List.forall_mem_append.mpr ⟨lwin_wsL_law0_r9, (List.forall_mem_append.mpr ⟨lwin_wsL_law0_r10, (List.forall_mem_append.mpr ⟨lwin_wsL_law0_r11, (List.forall_mem_append.mpr ⟨lwin_wsL_law0_r12, (List.forall_mem_append.mpr ⟨lwin_wsL_law0_r13, (List.forall_mem_append.mpr ⟨lwin_wsL_law0_r14, (List.forall_mem_append.mpr ⟨lwin_wsL_law0_r15, (List.forall_mem_append.mpr ⟨lwin_wsL_law0_r16, (List.forall_mem_append.mpr ⟨lwin_wsL_law0_r17, (List.forall_mem_append.mpr ⟨lwin_wsL_law0_r18, (List.forall_mem_append.mpr ⟨lwin_wsL_law0_r19, (List.forall_mem_append.mpr ⟨lwin_wsL_law0_r20, (List.forall_mem_append.mpr ⟨lwin_wsL_law0_r21, (List.forall_mem_append.mpr ⟨lwin_wsL_law0_r22, (List.forall_mem_append.mpr ⟨lwin_wsL_law0_r23, (List.forall_mem_append.mpr ⟨lwin_wsL_law0_r24, (List.forall_mem_append.mpr ⟨lwin_wsL_law0_r25, lwin_wsL_law0_r26⟩)⟩)⟩)⟩)⟩)⟩)⟩)⟩)⟩)⟩)⟩)⟩)⟩)⟩)⟩)⟩)⟩)⟩)⟩)⟩)⟩)⟩)⟩)⟩)⟩), lwin_wsX70⟩), lwin_wsX80⟩), lwin_wsX40⟩), lwin_wsX60⟩), lwin_wsX10⟩), lwin_wsX00⟩), lwin_wsX20⟩), (fun _ h => absurd h List.not_mem_nil)⟩)
theorem wsL_law_x0 : ∀ w ∈ (vx_at0 RX7 127 "java/util/NoSuchElementException" ["java/lang/RuntimeException", "java/lang/Exception"]).filter goodWord, w ∈ lw_tbl := by decide +kernel
theorem wsL_law_in : ∀ w ∈ wsL_law, w ∈ lw_tbl := fun w h => (List.mem_append.mp h).elim (fun h => wsL_law_in0 w h) (fun h => wsL_law_x0 w h)
theorem inlX0 : ∀ w ∈ wsX00, w ∈ wsL_law := fun _ h => List.mem_append_left _ (List.mem_append_left _ (List.mem_append_left _ (List.mem_append_right _ h)))
theorem inX0 : ∀ w ∈ wsX00, w ∈ lw_tbl := fun w h => wsL_law_in w (inlX0 w h)
theorem inlX1 : ∀ w ∈ wsX10, w ∈ wsL_law := fun _ h => List.mem_append_left _ (List.mem_append_left _ (List.mem_append_left _ (List.mem_append_left _ (List.mem_append_right _ h))))
theorem inX1 : ∀ w ∈ wsX10, w ∈ lw_tbl := fun w h => wsL_law_in w (inlX1 w h)
theorem inlX2 : ∀ w ∈ wsX20, w ∈ wsL_law := fun _ h => List.mem_append_left _ (List.mem_append_left _ (List.mem_append_right _ h))
theorem inX2 : ∀ w ∈ wsX20, w ∈ lw_tbl := fun w h => wsL_law_in w (inlX2 w h)
theorem inX3 : ∀ w ∈ wsX30, w ∈ lw_tbl := by decide +kernel
theorem inlX4 : ∀ w ∈ wsX40, w ∈ wsL_law := fun _ h => List.mem_append_left _ (List.mem_append_left _ (List.mem_append_left _ (List.mem_append_left _ (List.mem_append_left _ (List.mem_append_left _ (List.mem_append_right _ h))))))
theorem inX4 : ∀ w ∈ wsX40, w ∈ lw_tbl := fun w h => wsL_law_in w (inlX4 w h)
theorem inX5 : ∀ w ∈ wsX50, w ∈ lw_tbl := by decide +kernel
theorem inlX6 : ∀ w ∈ wsX60, w ∈ wsL_law := fun _ h => List.mem_append_left _ (List.mem_append_left _ (List.mem_append_left _ (List.mem_append_left _ (List.mem_append_left _ (List.mem_append_right _ h)))))
theorem inX6 : ∀ w ∈ wsX60, w ∈ lw_tbl := fun w h => wsL_law_in w (inlX6 w h)
theorem inlX7 : ∀ w ∈ wsX70, w ∈ wsL_law := fun _ h => List.mem_append_left _ (List.mem_append_left _ (List.mem_append_left _ (List.mem_append_left _ (List.mem_append_left _ (List.mem_append_left _ (List.mem_append_left _ (List.mem_append_left _ (List.mem_append_right _ h))))))))
theorem inX7 : ∀ w ∈ wsX70, w ∈ lw_tbl := fun w h => wsL_law_in w (inlX7 w h)
theorem inlX8 : ∀ w ∈ wsX80, w ∈ wsL_law := fun _ h => List.mem_append_left _ (List.mem_append_left _ (List.mem_append_left _ (List.mem_append_left _ (List.mem_append_left _ (List.mem_append_left _ (List.mem_append_left _ (List.mem_append_right _ h)))))))
theorem inX8 : ∀ w ∈ wsX80, w ∈ lw_tbl := fun w h => wsL_law_in w (inlX8 w h)
theorem inJx29ce0 : ∀ w ∈ wsJx29ce00, w ∈ lw_tbl := by decide +kernel
theorem inJ9 : ∀ w ∈ wsJ90, w ∈ lw_tbl := by decide +kernel
theorem inJ10 : ∀ w ∈ wsJ100, w ∈ lw_tbl := by decide +kernel
set_option maxRecDepth 20000 in
theorem ggX0_init_X3_init : GoodIn wsX0_init wsX3_init := goodIn_r _ [7, 8, 9, 10] (by decide +kernel) (by decide +kernel)
set_option maxRecDepth 20000 in
theorem gX0_init_X3_init_n3 : GoodIn wsX0_init (wsX3_init) := ggX0_init_X3_init
set_option maxRecDepth 20000 in
theorem ggX0_init_X2_init : GoodIn wsX0_init wsX2_init := goodIn_r _ [13, 14, 9, 10, 15, 16, 17, 18, 19, 20, 21, 22, 23, 24, 25, 26, 27] (by decide +kernel) (by decide +kernel)
set_option maxRecDepth 20000 in
theorem gX0_init_X2_init : GoodIn wsX0_init (wsX2_init) := ggX0_init_X2_init
theorem dX0_init_0 : decode cX0_init 0 = .ok (.aload_n 0, 1) := by decide +kernel
theorem dX0_init_1 : decode cX0_init 1 = .ok (.invokespecial 3, 3) := by decide +kernel
theorem dX0_init_4 : decode cX0_init 4 = .ok (.aload_n 0, 1) := by decide +kernel
theorem dX0_init_5 : decode cX0_init 5 = .ok (.new 9, 3) := by decide +kernel
theorem dX0_init_8 : decode cX0_init 8 = .ok (.dup, 1) := by decide +kernel
theorem dX0_init_9 : decode cX0_init 9 = .ok (.sipush 24576, 3) := by decide +kernel
theorem dX0_init_12 : decode cX0_init 12 = .ok (.invokespecial 11, 3) := by decide +kernel
theorem dX0_init_15 : decode cX0_init 15 = .ok (.putfield 14, 3) := by decide +kernel
theorem dX0_init_18 : decode cX0_init 18 = .ok (.return_, 1) := by decide +kernel
set_option maxRecDepth 20000 in
theorem ggX0_prepare_X3_startWork : GoodIn wsX0_prepare wsX3_startWork := goodIn_r _ [10, 11, 12, 13, 34, 35, 36, 37, 38, 39, 40, 41, 42, 49, 50, 51, 52, 53, 54, 55, 56, 57, 58] (by decide +kernel) (by decide +kernel)
set_option maxRecDepth 20000 in
theorem gX0_prepare_X3_startWork_u20X0 : GoodIn wsX0_prepare (va_wsU RX0 20 RX0 "BatchTransfer$Side" ⟨"BatchTransfer$Receiver", "startWork", "(I)V"⟩ yX3_startWork wsX3_startWork) := goodIn_app (goodIn_of _ (by decide +kernel)) ggX0_prepare_X3_startWork
set_option maxRecDepth 20000 in
theorem ggX0_prepare_X0_expectHead : GoodIn wsX0_prepare wsX0_expectHead := goodIn_r _ [18, 19, 20, 34, 35, 36, 37, 38, 39, 40, 41, 42] (by decide +kernel) (by decide +kernel)
set_option maxRecDepth 20000 in
theorem gX0_prepare_X0_expectHead : GoodIn wsX0_prepare (wsV RX0 34 RX0 yX0_expectHead wsX0_expectHead) := goodIn_app (goodIn_of _ (by decide +kernel)) ggX0_prepare_X0_expectHead
set_option maxRecDepth 20000 in
theorem ggX0_prepare_X2_open : GoodIn wsX0_prepare wsX2_open := goodIn_r _ [25, 26, 27, 28, 29, 43, 44, 45, 46, 47, 48] (by decide +kernel) (by decide +kernel)
set_option maxRecDepth 20000 in
theorem gX0_prepare_X2_open : GoodIn wsX0_prepare (wsV RX0 37 RX2 yX2_open wsX2_open) := goodIn_app (goodIn_of _ (by decide +kernel)) ggX0_prepare_X2_open
set_option maxRecDepth 20000 in
theorem ggX0_prepare_X0_expectBlocks : GoodIn wsX0_prepare wsX0_expectBlocks := goodIn_r _ [33, 19, 20, 34, 35, 36, 37, 38, 39, 40, 41, 42] (by decide +kernel) (by decide +kernel)
set_option maxRecDepth 20000 in
theorem gX0_prepare_X0_expectBlocks : GoodIn wsX0_prepare (wsV RX0 40 RX0 yX0_expectBlocks wsX0_expectBlocks) := goodIn_app (goodIn_of _ (by decide +kernel)) ggX0_prepare_X0_expectBlocks
theorem dX0_prepare_0 : decode cX0_prepare 0 = .ok (.aload_n 0, 1) := by decide +kernel
theorem dX0_prepare_1 : decode cX0_prepare 1 = .ok (.iload_n 1, 1) := by decide +kernel
theorem dX0_prepare_2 : decode cX0_prepare 2 = .ok (.invokevirtual 20, 3) := by decide +kernel
theorem dX0_prepare_5 : decode cX0_prepare 5 = .ok (.aload_n 0, 1) := by decide +kernel
theorem dX0_prepare_6 : decode cX0_prepare 6 = .ok (.getfield 14, 3) := by decide +kernel
theorem dX0_prepare_9 : decode cX0_prepare 9 = .ok (.iconst 0, 1) := by decide +kernel
theorem dX0_prepare_10 : decode cX0_prepare 10 = .ok (.putfield 23, 3) := by decide +kernel
theorem dX0_prepare_13 : decode cX0_prepare 13 = .ok (.aload_n 0, 1) := by decide +kernel
theorem dX0_prepare_14 : decode cX0_prepare 14 = .ok (.iconst 0, 1) := by decide +kernel
theorem dX0_prepare_15 : decode cX0_prepare 15 = .ok (.putfield 27, 3) := by decide +kernel
theorem dX0_prepare_18 : decode cX0_prepare 18 = .ok (.aload_n 0, 1) := by decide +kernel
theorem dX0_prepare_19 : decode cX0_prepare 19 = .ok (.iconst 0, 1) := by decide +kernel
theorem dX0_prepare_20 : decode cX0_prepare 20 = .ok (.putfield 31, 3) := by decide +kernel
theorem dX0_prepare_23 : decode cX0_prepare 23 = .ok (.iload_n 1, 1) := by decide +kernel
theorem dX0_prepare_24 : decode cX0_prepare 24 = .ok (.iconst 3, 1) := by decide +kernel
theorem dX0_prepare_25 : decode cX0_prepare 25 = .ok (.if_icmp .ne 10, 3) := by decide +kernel
theorem dX0_prepare_28 : decode cX0_prepare 28 = .ok (.aload_n 0, 1) := by decide +kernel
theorem dX0_prepare_29 : decode cX0_prepare 29 = .ok (.invokevirtual 34, 3) := by decide +kernel
theorem dX0_prepare_32 : decode cX0_prepare 32 = .ok (.goto 14, 3) := by decide +kernel
theorem dX0_prepare_35 : decode cX0_prepare 35 = .ok (.aload_n 0, 1) := by decide +kernel
theorem dX0_prepare_36 : decode cX0_prepare 36 = .ok (.getfield 14, 3) := by decide +kernel
theorem dX0_prepare_39 : decode cX0_prepare 39 = .ok (.invokevirtual 37, 3) := by decide +kernel
theorem dX0_prepare_42 : decode cX0_prepare 42 = .ok (.aload_n 0, 1) := by decide +kernel
theorem dX0_prepare_43 : decode cX0_prepare 43 = .ok (.invokevirtual 40, 3) := by decide +kernel
theorem dX0_prepare_46 : decode cX0_prepare 46 = .ok (.return_, 1) := by decide +kernel
set_option maxRecDepth 20000 in
theorem ggX0_answer_X6_isRightBlock : GoodIn wsX0_answer wsX6_isRightBlock := goodIn_r _ [8, 9, 10, 11, 12, 7, 13, 14, 15, 16, 17, 18, 19, 20, 21, 22, 23, 24, 25, 26, 27, 154, 155] (by decide +kernel) (by decide +kernel)
set_option maxRecDepth 20000 in
theorem gX0_answer_X6_isRightBlock : GoodIn wsX0_answer (wsV RX0 46 RX6 yX6_isRightBlock wsX6_isRightBlock) := goodIn_app (goodIn_of _ (by decide +kernel)) ggX0_answer_X6_isRightBlock
set_option maxRecDepth 20000 in
theorem ggX0_answer_X0_answerBlock : GoodIn wsX0_answer wsX0_answerBlock := goodIn_r _ [32, 33, 3, 34, 35, 36, 15, 16, 7, 17, 18, 37, 38, 39, 31, 40, 41, 42, 43, 44, 45, 46, 47, 48, 49, 50, 51, 52, 53, 54, 55, 56, 57, 58, 59, 60, 61, 62, 63, 64, 65, 66, 67, 68, 69, 70, 71, 72, 73, 74, 75, 76, 77, 78, 11, 12, 13, 14, 79, 80, 81, 82, 83, 84, 85, 86, 87, 88, 89, 90, 91, 92, 93, 9, 94, 95, 96, 97, 98, 99, 100, 101, 135, 136, 137, 138, 139, 140, 141, 142, 143, 154, 155, 144, 145, 146, 147, 148, 149, 150, 151, 152, 153, 156, 157, 158, 159, 160, 161] (by decide +kernel) (by decide +kernel)
set_option maxRecDepth 20000 in
theorem gX0_answer_X0_answerBlock : GoodIn wsX0_answer (wsV RX0 52 RX0 yX0_answerBlock wsX0_answerBlock) := goodIn_app (goodIn_of _ (by decide +kernel)) ggX0_answer_X0_answerBlock
set_option maxRecDepth 20000 in
theorem ggX0_answer_X6_isByte : GoodIn wsX0_answer wsX6_isByte := goodIn_r _ [105, 9, 14, 15, 16, 7, 17, 18, 154, 155] (by decide +kernel) (by decide +kernel)
set_option maxRecDepth 20000 in
theorem gX0_answer_X6_isByte : GoodIn wsX0_answer (wsV RX0 56 RX6 yX6_isByte wsX6_isByte) := goodIn_app (goodIn_of _ (by decide +kernel)) ggX0_answer_X6_isByte
set_option maxRecDepth 20000 in
theorem ggX0_answer_X0_answerEnd : GoodIn wsX0_answer wsX0_answerEnd := goodIn_r _ [109, 35, 110, 111, 112, 31, 113, 1, 2, 43, 45, 34, 41, 42, 114, 115, 116, 52, 117, 54, 56, 118, 119, 120, 121, 33, 84, 85, 86, 87, 88, 89, 90, 91, 92, 7, 93, 18, 9, 135, 136, 137, 138, 139, 140, 141, 142, 143, 144, 145, 146, 147, 148, 149, 150, 151, 152, 153, 156, 157, 158, 159, 160, 161, 154, 155] (by decide +kernel) (by decide +kernel)
set_option maxRecDepth 20000 in
theorem gX0_answer_X0_answerEnd : GoodIn wsX0_answer (wsV RX0 59 RX0 yX0_answerEnd wsX0_answerEnd) := goodIn_app (goodIn_of _ (by decide +kernel)) ggX0_answer_X0_answerEnd
set_option maxRecDepth 20000 in
theorem ggX0_answer_X3_bearsMiss : GoodIn wsX0_answer wsX3_bearsMiss := goodIn_r _ [126, 127, 128, 129, 130, 97, 98, 99, 100, 101, 91, 92, 7, 93, 18, 9, 131, 135, 136, 137, 138, 139, 140, 141, 142, 143, 144, 145, 146, 147, 148, 149, 150, 151, 152, 153, 154, 155] (by decide +kernel) (by decide +kernel)
set_option maxRecDepth 20000 in
theorem gX0_answer_X3_bearsMiss_u62X0 : GoodIn wsX0_answer (va_wsU RX0 62 RX0 "BatchTransfer$Side" ⟨"BatchTransfer$Receiver", "bearsMiss", "(LBatchTransfer$Wire;)Z"⟩ yX3_bearsMiss wsX3_bearsMiss) := goodIn_app (goodIn_of _ (by decide +kernel)) ggX0_answer_X3_bearsMiss
set_option maxRecDepth 20000 in
theorem ggX0_answer_X7_askOf : GoodIn wsX0_answer wsX7_askOf := goodIn_r _ [134] (by decide +kernel) (by decide +kernel)
set_option maxRecDepth 20000 in
theorem gX0_answer_X7_askOf_n66 : GoodIn wsX0_answer (wsX7_askOf) := ggX0_answer_X7_askOf
set_option maxRecDepth 20000 in
theorem ggX0_answer_X6_putByte : GoodIn wsX0_answer wsX6_putByte := goodIn_r _ [93, 18, 9, 154, 155] (by decide +kernel) (by decide +kernel)
set_option maxRecDepth 20000 in
theorem gX0_answer_X6_putByte : GoodIn wsX0_answer (wsV RX0 70 RX6 yX6_putByte wsX6_putByte) := goodIn_app (goodIn_of _ (by decide +kernel)) ggX0_answer_X6_putByte
theorem dX0_answer_0 : decode cX0_answer 0 = .ok (.aload_n 1, 1) := by decide +kernel
theorem dX0_answer_1 : decode cX0_answer 1 = .ok (.aload_n 0, 1) := by decide +kernel
theorem dX0_answer_2 : decode cX0_answer 2 = .ok (.getfield 43, 3) := by decide +kernel
theorem dX0_answer_5 : decode cX0_answer 5 = .ok (.invokevirtual 46, 3) := by decide +kernel
theorem dX0_answer_8 : decode cX0_answer 8 = .ok (.ifCond .eq 11, 3) := by decide +kernel
theorem dX0_answer_11 : decode cX0_answer 11 = .ok (.aload_n 0, 1) := by decide +kernel
theorem dX0_answer_12 : decode cX0_answer 12 = .ok (.aload_n 1, 1) := by decide +kernel
theorem dX0_answer_13 : decode cX0_answer 13 = .ok (.invokevirtual 52, 3) := by decide +kernel
theorem dX0_answer_16 : decode cX0_answer 16 = .ok (.goto 50, 3) := by decide +kernel
theorem dX0_answer_19 : decode cX0_answer 19 = .ok (.aload_n 1, 1) := by decide +kernel
theorem dX0_answer_20 : decode cX0_answer 20 = .ok (.iconst 4, 1) := by decide +kernel
theorem dX0_answer_21 : decode cX0_answer 21 = .ok (.invokevirtual 56, 3) := by decide +kernel
theorem dX0_answer_24 : decode cX0_answer 24 = .ok (.ifCond .eq 11, 3) := by decide +kernel
theorem dX0_answer_27 : decode cX0_answer 27 = .ok (.aload_n 0, 1) := by decide +kernel
theorem dX0_answer_28 : decode cX0_answer 28 = .ok (.aload_n 1, 1) := by decide +kernel
theorem dX0_answer_29 : decode cX0_answer 29 = .ok (.invokevirtual 59, 3) := by decide +kernel
theorem dX0_answer_32 : decode cX0_answer 32 = .ok (.goto 34, 3) := by decide +kernel
theorem dX0_answer_35 : decode cX0_answer 35 = .ok (.aload_n 0, 1) := by decide +kernel
theorem dX0_answer_36 : decode cX0_answer 36 = .ok (.aload_n 1, 1) := by decide +kernel
theorem dX0_answer_37 : decode cX0_answer 37 = .ok (.invokevirtual 62, 3) := by decide +kernel
theorem dX0_answer_40 : decode cX0_answer 40 = .ok (.ifCond .eq 26, 3) := by decide +kernel
theorem dX0_answer_43 : decode cX0_answer 43 = .ok (.aload_n 1, 1) := by decide +kernel
theorem dX0_answer_44 : decode cX0_answer 44 = .ok (.aload_n 0, 1) := by decide +kernel
theorem dX0_answer_45 : decode cX0_answer 45 = .ok (.getfield 27, 3) := by decide +kernel
theorem dX0_answer_48 : decode cX0_answer 48 = .ok (.ifCond .eq 8, 3) := by decide +kernel
theorem dX0_answer_51 : decode cX0_answer 51 = .ok (.bipush 21, 2) := by decide +kernel
theorem dX0_answer_53 : decode cX0_answer 53 = .ok (.goto 10, 3) := by decide +kernel
theorem dX0_answer_56 : decode cX0_answer 56 = .ok (.aload_n 0, 1) := by decide +kernel
theorem dX0_answer_57 : decode cX0_answer 57 = .ok (.getfield 43, 3) := by decide +kernel
theorem dX0_answer_60 : decode cX0_answer 60 = .ok (.invokestatic 66, 3) := by decide +kernel
theorem dX0_answer_63 : decode cX0_answer 63 = .ok (.invokevirtual 70, 3) := by decide +kernel
theorem dX0_answer_66 : decode cX0_answer 66 = .ok (.return_, 1) := by decide +kernel
set_option maxRecDepth 20000 in
theorem ggX0_answerBlock_X6_get : GoodIn wsX0_answerBlock wsX6_get := goodIn_r _ [9, 10, 91, 92] (by decide +kernel) (by decide +kernel)
set_option maxRecDepth 20000 in
theorem gX0_answerBlock_X6_get : GoodIn wsX0_answerBlock (wsV RX0 73 RX6 yX6_get wsX6_get) := goodIn_app (goodIn_of _ (by decide +kernel)) ggX0_answerBlock_X6_get
set_option maxRecDepth 20000 in
theorem ggX0_answerBlock_X0_takeHead : GoodIn wsX0_answerBlock wsX0_takeHead := goodIn_r _ [15, 16, 17, 18, 19, 20, 21, 22, 14, 23, 5, 6, 7, 8, 9, 10, 24, 25, 26, 27, 28, 29, 30, 31, 32, 33, 34, 35, 36, 37, 38, 39, 40, 41, 42, 43, 44, 45, 46, 47, 48, 1, 4, 82, 83, 84, 85, 86, 87, 88, 89, 90, 93, 94, 95, 96, 97, 98, 99, 100, 101, 102, 91, 92, 103, 104, 105, 106, 107, 108] (by decide +kernel) (by decide +kernel)
set_option maxRecDepth 20000 in
theorem gX0_answerBlock_X0_takeHead : GoodIn wsX0_answerBlock (wsV RX0 82 RX0 yX0_takeHead wsX0_takeHead) := goodIn_app (goodIn_of _ (by decide +kernel)) ggX0_answerBlock_X0_takeHead
set_option maxRecDepth 20000 in
theorem ggX0_answerBlock_X0_takeData : GoodIn wsX0_answerBlock wsX0_takeData := goodIn_r _ [52, 18, 19, 1, 53, 54, 55, 8, 56, 57, 6, 7, 9, 10, 58, 59, 60, 27, 61, 29, 30, 31, 62, 38, 39, 40, 41, 82, 83, 84, 85, 86, 87, 88, 89, 90, 91, 92, 103, 104, 105, 106, 107, 108] (by decide +kernel) (by decide +kernel)
set_option maxRecDepth 20000 in
theorem gX0_answerBlock_X0_takeData : GoodIn wsX0_answerBlock (wsV RX0 85 RX0 yX0_takeData wsX0_takeData) := goodIn_app (goodIn_of _ (by decide +kernel)) ggX0_answerBlock_X0_takeData
set_option maxRecDepth 20000 in
theorem ggX0_answerBlock_X0_acknowledge : GoodIn wsX0_answerBlock wsX0_acknowledge := goodIn_r _ [66, 67, 68, 69, 70, 71, 8, 72, 10, 73, 82, 83, 84, 85, 86, 87, 88, 89, 90, 93, 94, 95, 96, 97, 98, 99, 100, 101, 102, 91, 92] (by decide +kernel) (by decide +kernel)
set_option maxRecDepth 20000 in
theorem gX0_answerBlock_X0_acknowledge : GoodIn wsX0_answerBlock (wsV RX0 88 RX0 yX0_acknowledge wsX0_acknowledge) := goodIn_app (goodIn_of _ (by decide +kernel)) ggX0_answerBlock_X0_acknowledge
set_option maxRecDepth 20000 in
theorem ggX0_answerBlock_X3_giveUp : GoodIn wsX0_answerBlock wsX3_giveUp := goodIn_r _ [79, 80, 81, 70, 71, 8, 72, 10, 73, 82, 83, 84, 85, 86, 87, 88, 89, 90, 93, 94, 95, 96, 97, 98, 99, 100, 101, 102, 91, 92] (by decide +kernel) (by decide +kernel)
set_option maxRecDepth 20000 in
theorem gX0_answerBlock_X3_giveUp_u91X0 : GoodIn wsX0_answerBlock (va_wsU RX0 91 RX0 "BatchTransfer$Side" ⟨"BatchTransfer$Receiver", "giveUp", "(LBatchTransfer$Wire;)V"⟩ yX3_giveUp wsX3_giveUp) := goodIn_app (goodIn_of _ (by decide +kernel)) ggX0_answerBlock_X3_giveUp
theorem dX0_answerBlock_0 : decode cX0_answerBlock 0 = .ok (.aload_n 1, 1) := by decide +kernel
theorem dX0_answerBlock_1 : decode cX0_answerBlock 1 = .ok (.iconst 1, 1) := by decide +kernel
theorem dX0_answerBlock_2 : decode cX0_answerBlock 2 = .ok (.invokevirtual 73, 3) := by decide +kernel
theorem dX0_answerBlock_5 : decode cX0_answerBlock 5 = .ok (.istore_n 2, 1) := by decide +kernel
theorem dX0_answerBlock_6 : decode cX0_answerBlock 6 = .ok (.iload_n 2, 1) := by decide +kernel
theorem dX0_answerBlock_7 : decode cX0_answerBlock 7 = .ok (.aload_n 0, 1) := by decide +kernel
theorem dX0_answerBlock_8 : decode cX0_answerBlock 8 = .ok (.getfield 76, 3) := by decide +kernel
theorem dX0_answerBlock_11 : decode cX0_answerBlock 11 = .ok (.if_icmp .ne 41, 3) := by decide +kernel
theorem dX0_answerBlock_14 : decode cX0_answerBlock 14 = .ok (.aload_n 0, 1) := by decide +kernel
theorem dX0_answerBlock_15 : decode cX0_answerBlock 15 = .ok (.iconst 1, 1) := by decide +kernel
theorem dX0_answerBlock_16 : decode cX0_answerBlock 16 = .ok (.putfield 27, 3) := by decide +kernel
theorem dX0_answerBlock_19 : decode cX0_answerBlock 19 = .ok (.aload_n 0, 1) := by decide +kernel
theorem dX0_answerBlock_20 : decode cX0_answerBlock 20 = .ok (.iconst 1, 1) := by decide +kernel
theorem dX0_answerBlock_21 : decode cX0_answerBlock 21 = .ok (.putfield 31, 3) := by decide +kernel
theorem dX0_answerBlock_24 : decode cX0_answerBlock 24 = .ok (.aload_n 0, 1) := by decide +kernel
theorem dX0_answerBlock_25 : decode cX0_answerBlock 25 = .ok (.getfield 79, 3) := by decide +kernel
theorem dX0_answerBlock_28 : decode cX0_answerBlock 28 = .ok (.ifCond .eq 11, 3) := by decide +kernel
theorem dX0_answerBlock_31 : decode cX0_answerBlock 31 = .ok (.aload_n 0, 1) := by decide +kernel
theorem dX0_answerBlock_32 : decode cX0_answerBlock 32 = .ok (.aload_n 1, 1) := by decide +kernel
theorem dX0_answerBlock_33 : decode cX0_answerBlock 33 = .ok (.invokevirtual 82, 3) := by decide +kernel
theorem dX0_answerBlock_36 : decode cX0_answerBlock 36 = .ok (.goto 8, 3) := by decide +kernel
theorem dX0_answerBlock_39 : decode cX0_answerBlock 39 = .ok (.aload_n 0, 1) := by decide +kernel
theorem dX0_answerBlock_40 : decode cX0_answerBlock 40 = .ok (.aload_n 1, 1) := by decide +kernel
theorem dX0_answerBlock_41 : decode cX0_answerBlock 41 = .ok (.invokevirtual 85, 3) := by decide +kernel
theorem dX0_answerBlock_44 : decode cX0_answerBlock 44 = .ok (.aload_n 0, 1) := by decide +kernel
theorem dX0_answerBlock_45 : decode cX0_answerBlock 45 = .ok (.aload_n 1, 1) := by decide +kernel
theorem dX0_answerBlock_46 : decode cX0_answerBlock 46 = .ok (.invokevirtual 88, 3) := by decide +kernel
theorem dX0_answerBlock_49 : decode cX0_answerBlock 49 = .ok (.goto 37, 3) := by decide +kernel
theorem dX0_answerBlock_52 : decode cX0_answerBlock 52 = .ok (.aload_n 0, 1) := by decide +kernel
theorem dX0_answerBlock_53 : decode cX0_answerBlock 53 = .ok (.getfield 31, 3) := by decide +kernel
theorem dX0_answerBlock_56 : decode cX0_answerBlock 56 = .ok (.ifCond .eq 25, 3) := by decide +kernel
theorem dX0_answerBlock_59 : decode cX0_answerBlock 59 = .ok (.iload_n 2, 1) := by decide +kernel
theorem dX0_answerBlock_60 : decode cX0_answerBlock 60 = .ok (.aload_n 0, 1) := by decide +kernel
theorem dX0_answerBlock_61 : decode cX0_answerBlock 61 = .ok (.getfield 76, 3) := by decide +kernel
theorem dX0_answerBlock_64 : decode cX0_answerBlock 64 = .ok (.iconst 1, 1) := by decide +kernel
theorem dX0_answerBlock_65 : decode cX0_answerBlock 65 = .ok (.isub, 1) := by decide +kernel
theorem dX0_answerBlock_66 : decode cX0_answerBlock 66 = .ok (.sipush 255, 3) := by decide +kernel
theorem dX0_answerBlock_69 : decode cX0_answerBlock 69 = .ok (.iand, 1) := by decide +kernel
theorem dX0_answerBlock_70 : decode cX0_answerBlock 70 = .ok (.if_icmp .ne 11, 3) := by decide +kernel
theorem dX0_answerBlock_73 : decode cX0_answerBlock 73 = .ok (.aload_n 0, 1) := by decide +kernel
theorem dX0_answerBlock_74 : decode cX0_answerBlock 74 = .ok (.aload_n 1, 1) := by decide +kernel
theorem dX0_answerBlock_75 : decode cX0_answerBlock 75 = .ok (.invokevirtual 88, 3) := by decide +kernel
theorem dX0_answerBlock_78 : decode cX0_answerBlock 78 = .ok (.goto 8, 3) := by decide +kernel
theorem dX0_answerBlock_81 : decode cX0_answerBlock 81 = .ok (.aload_n 0, 1) := by decide +kernel
theorem dX0_answerBlock_82 : decode cX0_answerBlock 82 = .ok (.aload_n 1, 1) := by decide +kernel
theorem dX0_answerBlock_83 : decode cX0_answerBlock 83 = .ok (.invokevirtual 91, 3) := by decide +kernel
theorem dX0_answerBlock_86 : decode cX0_answerBlock 86 = .ok (.return_, 1) := by decide +kernel
set_option maxRecDepth 20000 in
theorem ggX0_answerEnd_X0_closeFile : GoodIn wsX0_answerEnd wsX0_closeFile := goodIn_r _ [6, 7, 8, 9, 10, 11, 12, 13, 14, 15, 16, 17, 18, 19, 20, 21, 22, 23, 5, 24, 25, 1, 39, 40, 41, 42, 43, 44, 45, 46, 47, 48, 49, 50, 51, 52, 53, 54, 55, 56, 57, 58, 59, 60, 61, 62, 63] (by decide +kernel) (by decide +kernel)
set_option maxRecDepth 20000 in
theorem gX0_answerEnd_X0_closeFile : GoodIn wsX0_answerEnd (wsV RX0 94 RX0 yX0_closeFile wsX0_closeFile) := goodIn_app (goodIn_of _ (by decide +kernel)) ggX0_answerEnd_X0_closeFile
set_option maxRecDepth 20000 in
theorem ggX0_answerEnd_X0_acknowledge : GoodIn wsX0_answerEnd wsX0_acknowledge := goodIn_r _ [29, 30, 31, 32, 33, 34, 35, 36, 37, 38, 39, 40, 41, 42, 43, 44, 45, 46, 47, 48, 49, 50, 51, 52, 53, 54, 55, 56, 57, 64, 65] (by decide +kernel) (by decide +kernel)
set_option maxRecDepth 20000 in
theorem gX0_answerEnd_X0_acknowledge : GoodIn wsX0_answerEnd (wsV RX0 88 RX0 yX0_acknowledge wsX0_acknowledge) := goodIn_app (goodIn_of _ (by decide +kernel)) ggX0_answerEnd_X0_acknowledge
theorem dX0_answerEnd_0 : decode cX0_answerEnd 0 = .ok (.aload_n 0, 1) := by decide +kernel
theorem dX0_answerEnd_1 : decode cX0_answerEnd 1 = .ok (.getfield 79, 3) := by decide +kernel
theorem dX0_answerEnd_4 : decode cX0_answerEnd 4 = .ok (.ifCond .ne 7, 3) := by decide +kernel
theorem dX0_answerEnd_7 : decode cX0_answerEnd 7 = .ok (.aload_n 0, 1) := by decide +kernel
theorem dX0_answerEnd_8 : decode cX0_answerEnd 8 = .ok (.invokevirtual 94, 3) := by decide +kernel
theorem dX0_answerEnd_11 : decode cX0_answerEnd 11 = .ok (.aload_n 0, 1) := by decide +kernel
theorem dX0_answerEnd_12 : decode cX0_answerEnd 12 = .ok (.aload_n 1, 1) := by decide +kernel
theorem dX0_answerEnd_13 : decode cX0_answerEnd 13 = .ok (.invokevirtual 88, 3) := by decide +kernel
theorem dX0_answerEnd_16 : decode cX0_answerEnd 16 = .ok (.return_, 1) := by decide +kernel
set_option maxRecDepth 20000 in
theorem ggX0_acknowledge_X6_putByte : GoodIn wsX0_acknowledge wsX6_putByte := goodIn_r _ [7, 8, 9, 29, 30] (by decide +kernel) (by decide +kernel)
set_option maxRecDepth 20000 in
theorem gX0_acknowledge_X6_putByte : GoodIn wsX0_acknowledge (wsV RX0 70 RX6 yX6_putByte wsX6_putByte) := goodIn_app (goodIn_of _ (by decide +kernel)) ggX0_acknowledge_X6_putByte
theorem dX0_acknowledge_0 : decode cX0_acknowledge 0 = .ok (.aload_n 0, 1) := by decide +kernel
theorem dX0_acknowledge_1 : decode cX0_acknowledge 1 = .ok (.iconst 0, 1) := by decide +kernel
theorem dX0_acknowledge_2 : decode cX0_acknowledge 2 = .ok (.putfield 97, 3) := by decide +kernel
theorem dX0_acknowledge_5 : decode cX0_acknowledge 5 = .ok (.aload_n 1, 1) := by decide +kernel
theorem dX0_acknowledge_6 : decode cX0_acknowledge 6 = .ok (.bipush 6, 2) := by decide +kernel
theorem dX0_acknowledge_8 : decode cX0_acknowledge 8 = .ok (.invokevirtual 70, 3) := by decide +kernel
theorem dX0_acknowledge_11 : decode cX0_acknowledge 11 = .ok (.return_, 1) := by decide +kernel
set_option maxRecDepth 20000 in
theorem ggX0_takeHead_X0_nameLengthIn : GoodIn wsX0_takeHead wsX0_nameLengthIn := goodIn_r _ [9, 10, 11, 12, 13, 14, 15, 62, 63] (by decide +kernel) (by decide +kernel)
set_option maxRecDepth 20000 in
theorem gX0_takeHead_X0_nameLengthIn : GoodIn wsX0_takeHead (va_wsS RX0 100 yX0_nameLengthIn wsX0_nameLengthIn) := goodIn_app (goodIn_of _ (by decide +kernel)) ggX0_takeHead_X0_nameLengthIn
set_option maxRecDepth 20000 in
theorem ggX0_takeHead_X2_open : GoodIn wsX0_takeHead wsX2_open := goodIn_r _ [20, 21, 22, 23, 24, 64, 65, 66, 67, 68, 69] (by decide +kernel) (by decide +kernel)
set_option maxRecDepth 20000 in
theorem gX0_takeHead_X2_open : GoodIn wsX0_takeHead (wsV RX0 37 RX2 yX2_open wsX2_open) := goodIn_app (goodIn_of _ (by decide +kernel)) ggX0_takeHead_X2_open
set_option maxRecDepth 20000 in
theorem ggX0_takeHead_X2_nameLast : GoodIn wsX0_takeHead wsX2_nameLast := goodIn_r _ [28, 21, 29, 30, 31, 32, 33, 24, 64, 65, 66, 67, 68, 69] (by decide +kernel) (by decide +kernel)
set_option maxRecDepth 20000 in
theorem gX0_takeHead_X2_nameLast : GoodIn wsX0_takeHead (wsV RX0 111 RX2 yX2_nameLast wsX2_nameLast) := goodIn_app (goodIn_of _ (by decide +kernel)) ggX0_takeHead_X2_nameLast
set_option maxRecDepth 20000 in
theorem ggX0_takeHead_X0_numberIn : GoodIn wsX0_takeHead wsX0_numberIn := goodIn_r _ [36, 10, 11, 12, 13, 14, 15, 62, 63] (by decide +kernel) (by decide +kernel)
set_option maxRecDepth 20000 in
theorem gX0_takeHead_X0_numberIn : GoodIn wsX0_takeHead (va_wsS RX0 115 yX0_numberIn wsX0_numberIn) := goodIn_app (goodIn_of _ (by decide +kernel)) ggX0_takeHead_X0_numberIn
set_option maxRecDepth 20000 in
theorem ggX0_takeHead_X0_expectBlocks : GoodIn wsX0_takeHead wsX0_expectBlocks := goodIn_r _ [40, 41, 42, 43, 44, 45, 46, 47, 48, 49, 50, 51] (by decide +kernel) (by decide +kernel)
set_option maxRecDepth 20000 in
theorem gX0_takeHead_X0_expectBlocks : GoodIn wsX0_takeHead (wsV RX0 40 RX0 yX0_expectBlocks wsX0_expectBlocks) := goodIn_app (goodIn_of _ (by decide +kernel)) ggX0_takeHead_X0_expectBlocks
theorem dX0_takeHead_0 : decode cX0_takeHead 0 = .ok (.aload_n 1, 1) := by decide +kernel
theorem dX0_takeHead_1 : decode cX0_takeHead 1 = .ok (.invokestatic 100, 3) := by decide +kernel
theorem dX0_takeHead_4 : decode cX0_takeHead 4 = .ok (.istore_n 2, 1) := by decide +kernel
theorem dX0_takeHead_5 : decode cX0_takeHead 5 = .ok (.iload_n 2, 1) := by decide +kernel
theorem dX0_takeHead_6 : decode cX0_takeHead 6 = .ok (.ifCond .ne 9, 3) := by decide +kernel
theorem dX0_takeHead_9 : decode cX0_takeHead 9 = .ok (.aload_n 0, 1) := by decide +kernel
theorem dX0_takeHead_10 : decode cX0_takeHead 10 = .ok (.iconst 1, 1) := by decide +kernel
theorem dX0_takeHead_11 : decode cX0_takeHead 11 = .ok (.putfield 104, 3) := by decide +kernel
theorem dX0_takeHead_14 : decode cX0_takeHead 14 = .ok (.return_, 1) := by decide +kernel
theorem dX0_takeHead_15 : decode cX0_takeHead 15 = .ok (.aload_n 0, 1) := by decide +kernel
theorem dX0_takeHead_16 : decode cX0_takeHead 16 = .ok (.getfield 14, 3) := by decide +kernel
theorem dX0_takeHead_19 : decode cX0_takeHead 19 = .ok (.invokevirtual 37, 3) := by decide +kernel
theorem dX0_takeHead_22 : decode cX0_takeHead 22 = .ok (.aload_n 0, 1) := by decide +kernel
theorem dX0_takeHead_23 : decode cX0_takeHead 23 = .ok (.getfield 14, 3) := by decide +kernel
theorem dX0_takeHead_26 : decode cX0_takeHead 26 = .ok (.aload_n 1, 1) := by decide +kernel
theorem dX0_takeHead_27 : decode cX0_takeHead 27 = .ok (.getfield 107, 3) := by decide +kernel
theorem dX0_takeHead_30 : decode cX0_takeHead 30 = .ok (.iconst 3, 1) := by decide +kernel
theorem dX0_takeHead_31 : decode cX0_takeHead 31 = .ok (.iload_n 2, 1) := by decide +kernel
theorem dX0_takeHead_32 : decode cX0_takeHead 32 = .ok (.invokevirtual 111, 3) := by decide +kernel
theorem dX0_takeHead_35 : decode cX0_takeHead 35 = .ok (.aload_n 0, 1) := by decide +kernel
theorem dX0_takeHead_36 : decode cX0_takeHead 36 = .ok (.aload_n 1, 1) := by decide +kernel
theorem dX0_takeHead_37 : decode cX0_takeHead 37 = .ok (.iconst 3, 1) := by decide +kernel
theorem dX0_takeHead_38 : decode cX0_takeHead 38 = .ok (.iload_n 2, 1) := by decide +kernel
theorem dX0_takeHead_39 : decode cX0_takeHead 39 = .ok (.iadd, 1) := by decide +kernel
theorem dX0_takeHead_40 : decode cX0_takeHead 40 = .ok (.iconst 1, 1) := by decide +kernel
theorem dX0_takeHead_41 : decode cX0_takeHead 41 = .ok (.iadd, 1) := by decide +kernel
theorem dX0_takeHead_42 : decode cX0_takeHead 42 = .ok (.invokestatic 115, 3) := by decide +kernel
theorem dX0_takeHead_45 : decode cX0_takeHead 45 = .ok (.putfield 119, 3) := by decide +kernel
theorem dX0_takeHead_48 : decode cX0_takeHead 48 = .ok (.aload_n 0, 1) := by decide +kernel
theorem dX0_takeHead_49 : decode cX0_takeHead 49 = .ok (.invokevirtual 40, 3) := by decide +kernel
theorem dX0_takeHead_52 : decode cX0_takeHead 52 = .ok (.return_, 1) := by decide +kernel
set_option maxRecDepth 20000 in
theorem ggX0_nameLengthIn_X6_get : GoodIn wsX0_nameLengthIn wsX6_get := goodIn_r _ [5, 6, 7, 8] (by decide +kernel) (by decide +kernel)
set_option maxRecDepth 20000 in
theorem gX0_nameLengthIn_X6_get : GoodIn wsX0_nameLengthIn (wsV RX0 73 RX6 yX6_get wsX6_get) := goodIn_app (goodIn_of _ (by decide +kernel)) ggX0_nameLengthIn_X6_get
theorem dX0_nameLengthIn_0 : decode cX0_nameLengthIn 0 = .ok (.iconst 0, 1) := by decide +kernel
theorem dX0_nameLengthIn_1 : decode cX0_nameLengthIn 1 = .ok (.istore_n 1, 1) := by decide +kernel
theorem dX0_nameLengthIn_2 : decode cX0_nameLengthIn 2 = .ok (.iload_n 1, 1) := by decide +kernel
theorem dX0_nameLengthIn_3 : decode cX0_nameLengthIn 3 = .ok (.bipush 12, 2) := by decide +kernel
theorem dX0_nameLengthIn_5 : decode cX0_nameLengthIn 5 = .ok (.if_icmp .ge 19, 3) := by decide +kernel
theorem dX0_nameLengthIn_8 : decode cX0_nameLengthIn 8 = .ok (.aload_n 0, 1) := by decide +kernel
theorem dX0_nameLengthIn_9 : decode cX0_nameLengthIn 9 = .ok (.iconst 3, 1) := by decide +kernel
theorem dX0_nameLengthIn_10 : decode cX0_nameLengthIn 10 = .ok (.iload_n 1, 1) := by decide +kernel
theorem dX0_nameLengthIn_11 : decode cX0_nameLengthIn 11 = .ok (.iadd, 1) := by decide +kernel
theorem dX0_nameLengthIn_12 : decode cX0_nameLengthIn 12 = .ok (.invokevirtual 73, 3) := by decide +kernel
theorem dX0_nameLengthIn_15 : decode cX0_nameLengthIn 15 = .ok (.ifCond .eq 9, 3) := by decide +kernel
theorem dX0_nameLengthIn_18 : decode cX0_nameLengthIn 18 = .ok (.iinc 1 1, 3) := by decide +kernel
theorem dX0_nameLengthIn_21 : decode cX0_nameLengthIn 21 = .ok (.goto (-19), 3) := by decide +kernel
theorem dX0_nameLengthIn_24 : decode cX0_nameLengthIn 24 = .ok (.iload_n 1, 1) := by decide +kernel
theorem dX0_nameLengthIn_25 : decode cX0_nameLengthIn 25 = .ok (.ireturn, 1) := by decide +kernel
set_option maxRecDepth 20000 in
theorem ggX0_numberIn_X6_get : GoodIn wsX0_numberIn wsX6_get := goodIn_r _ [5, 6, 7, 8] (by decide +kernel) (by decide +kernel)
set_option maxRecDepth 20000 in
theorem gX0_numberIn_X6_get : GoodIn wsX0_numberIn (wsV RX0 73 RX6 yX6_get wsX6_get) := goodIn_app (goodIn_of _ (by decide +kernel)) ggX0_numberIn_X6_get
theorem dX0_numberIn_0 : decode cX0_numberIn 0 = .ok (.iconst 0, 1) := by decide +kernel
theorem dX0_numberIn_1 : decode cX0_numberIn 1 = .ok (.istore_n 2, 1) := by decide +kernel
theorem dX0_numberIn_2 : decode cX0_numberIn 2 = .ok (.iload_n 1, 1) := by decide +kernel
theorem dX0_numberIn_3 : decode cX0_numberIn 3 = .ok (.istore_n 3, 1) := by decide +kernel
theorem dX0_numberIn_4 : decode cX0_numberIn 4 = .ok (.iload_n 3, 1) := by decide +kernel
theorem dX0_numberIn_5 : decode cX0_numberIn 5 = .ok (.iload_n 1, 1) := by decide +kernel
theorem dX0_numberIn_6 : decode cX0_numberIn 6 = .ok (.bipush 6, 2) := by decide +kernel
theorem dX0_numberIn_8 : decode cX0_numberIn 8 = .ok (.iadd, 1) := by decide +kernel
theorem dX0_numberIn_9 : decode cX0_numberIn 9 = .ok (.if_icmp .ge 42, 3) := by decide +kernel
theorem dX0_numberIn_12 : decode cX0_numberIn 12 = .ok (.aload_n 0, 1) := by decide +kernel
theorem dX0_numberIn_13 : decode cX0_numberIn 13 = .ok (.iload_n 3, 1) := by decide +kernel
theorem dX0_numberIn_14 : decode cX0_numberIn 14 = .ok (.invokevirtual 73, 3) := by decide +kernel
theorem dX0_numberIn_17 : decode cX0_numberIn 17 = .ok (.bipush 48, 2) := by decide +kernel
theorem dX0_numberIn_19 : decode cX0_numberIn 19 = .ok (.isub, 1) := by decide +kernel
theorem dX0_numberIn_20 : decode cX0_numberIn 20 = .ok (.istore 4, 2) := by decide +kernel
theorem dX0_numberIn_22 : decode cX0_numberIn 22 = .ok (.iload 4, 2) := by decide +kernel
theorem dX0_numberIn_24 : decode cX0_numberIn 24 = .ok (.ifCond .lt 27, 3) := by decide +kernel
theorem dX0_numberIn_27 : decode cX0_numberIn 27 = .ok (.iload 4, 2) := by decide +kernel
theorem dX0_numberIn_29 : decode cX0_numberIn 29 = .ok (.bipush 9, 2) := by decide +kernel
theorem dX0_numberIn_31 : decode cX0_numberIn 31 = .ok (.if_icmp .le 6, 3) := by decide +kernel
theorem dX0_numberIn_34 : decode cX0_numberIn 34 = .ok (.goto 17, 3) := by decide +kernel
theorem dX0_numberIn_37 : decode cX0_numberIn 37 = .ok (.iload_n 2, 1) := by decide +kernel
theorem dX0_numberIn_38 : decode cX0_numberIn 38 = .ok (.bipush 10, 2) := by decide +kernel
theorem dX0_numberIn_40 : decode cX0_numberIn 40 = .ok (.imul, 1) := by decide +kernel
theorem dX0_numberIn_41 : decode cX0_numberIn 41 = .ok (.iload 4, 2) := by decide +kernel
theorem dX0_numberIn_43 : decode cX0_numberIn 43 = .ok (.iadd, 1) := by decide +kernel
theorem dX0_numberIn_44 : decode cX0_numberIn 44 = .ok (.istore_n 2, 1) := by decide +kernel
theorem dX0_numberIn_45 : decode cX0_numberIn 45 = .ok (.iinc 3 1, 3) := by decide +kernel
theorem dX0_numberIn_48 : decode cX0_numberIn 48 = .ok (.goto (-44), 3) := by decide +kernel
theorem dX0_numberIn_51 : decode cX0_numberIn 51 = .ok (.iload_n 2, 1) := by decide +kernel
theorem dX0_numberIn_52 : decode cX0_numberIn 52 = .ok (.ireturn, 1) := by decide +kernel
set_option maxRecDepth 20000 in
theorem ggX0_takeData_X6_dataLength : GoodIn wsX0_takeData wsX6_dataLength := goodIn_r _ [8, 9, 10, 11, 7, 12, 13, 36, 37] (by decide +kernel) (by decide +kernel)
set_option maxRecDepth 20000 in
theorem gX0_takeData_X6_dataLength : GoodIn wsX0_takeData (wsV RX0 122 RX6 yX6_dataLength wsX6_dataLength) := goodIn_app (goodIn_of _ (by decide +kernel)) ggX0_takeData_X6_dataLength
set_option maxRecDepth 20000 in
theorem ggX0_takeData_X2_extendLast : GoodIn wsX0_takeData wsX2_extendLast := goodIn_r _ [18, 19, 20, 21, 22, 23, 24, 25, 26, 38, 39, 40, 41, 42, 43] (by decide +kernel) (by decide +kernel)
set_option maxRecDepth 20000 in
theorem gX0_takeData_X2_extendLast : GoodIn wsX0_takeData (wsV RX0 126 RX2 yX2_extendLast wsX2_extendLast) := goodIn_app (goodIn_of _ (by decide +kernel)) ggX0_takeData_X2_extendLast
theorem dX0_takeData_0 : decode cX0_takeData 0 = .ok (.aload_n 0, 1) := by decide +kernel
theorem dX0_takeData_1 : decode cX0_takeData 1 = .ok (.getfield 14, 3) := by decide +kernel
theorem dX0_takeData_4 : decode cX0_takeData 4 = .ok (.aload_n 1, 1) := by decide +kernel
theorem dX0_takeData_5 : decode cX0_takeData 5 = .ok (.getfield 107, 3) := by decide +kernel
theorem dX0_takeData_8 : decode cX0_takeData 8 = .ok (.iconst 3, 1) := by decide +kernel
theorem dX0_takeData_9 : decode cX0_takeData 9 = .ok (.aload_n 1, 1) := by decide +kernel
theorem dX0_takeData_10 : decode cX0_takeData 10 = .ok (.invokevirtual 122, 3) := by decide +kernel
theorem dX0_takeData_13 : decode cX0_takeData 13 = .ok (.invokevirtual 126, 3) := by decide +kernel
theorem dX0_takeData_16 : decode cX0_takeData 16 = .ok (.aload_n 0, 1) := by decide +kernel
theorem dX0_takeData_17 : decode cX0_takeData 17 = .ok (.aload_n 0, 1) := by decide +kernel
theorem dX0_takeData_18 : decode cX0_takeData 18 = .ok (.getfield 76, 3) := by decide +kernel
theorem dX0_takeData_21 : decode cX0_takeData 21 = .ok (.iconst 1, 1) := by decide +kernel
theorem dX0_takeData_22 : decode cX0_takeData 22 = .ok (.iadd, 1) := by decide +kernel
theorem dX0_takeData_23 : decode cX0_takeData 23 = .ok (.sipush 255, 3) := by decide +kernel
theorem dX0_takeData_26 : decode cX0_takeData 26 = .ok (.iand, 1) := by decide +kernel
theorem dX0_takeData_27 : decode cX0_takeData 27 = .ok (.putfield 76, 3) := by decide +kernel
theorem dX0_takeData_30 : decode cX0_takeData 30 = .ok (.return_, 1) := by decide +kernel
set_option maxRecDepth 20000 in
theorem ggX0_closeFile_X2_cutLast : GoodIn wsX0_closeFile wsX2_cutLast := goodIn_r _ [12, 13, 14, 41, 42, 43, 44, 45, 46] (by decide +kernel) (by decide +kernel)
set_option maxRecDepth 20000 in
theorem gX0_closeFile_X2_cutLast : GoodIn wsX0_closeFile (wsV RX0 129 RX2 yX2_cutLast wsX2_cutLast) := goodIn_app (goodIn_of _ (by decide +kernel)) ggX0_closeFile_X2_cutLast
set_option maxRecDepth 20000 in
theorem ggX0_closeFile_X0_expectHead : GoodIn wsX0_closeFile wsX0_expectHead := goodIn_r _ [19, 20, 21, 22, 23, 24, 25, 26, 27, 28, 29, 30] (by decide +kernel) (by decide +kernel)
set_option maxRecDepth 20000 in
theorem gX0_closeFile_X0_expectHead : GoodIn wsX0_closeFile (wsV RX0 34 RX0 yX0_expectHead wsX0_expectHead) := goodIn_app (goodIn_of _ (by decide +kernel)) ggX0_closeFile_X0_expectHead
theorem dX0_closeFile_0 : decode cX0_closeFile 0 = .ok (.aload_n 0, 1) := by decide +kernel
theorem dX0_closeFile_1 : decode cX0_closeFile 1 = .ok (.getfield 43, 3) := by decide +kernel
theorem dX0_closeFile_4 : decode cX0_closeFile 4 = .ok (.iconst 3, 1) := by decide +kernel
theorem dX0_closeFile_5 : decode cX0_closeFile 5 = .ok (.if_icmp .ne 26, 3) := by decide +kernel
theorem dX0_closeFile_8 : decode cX0_closeFile 8 = .ok (.aload_n 0, 1) := by decide +kernel
theorem dX0_closeFile_9 : decode cX0_closeFile 9 = .ok (.getfield 14, 3) := by decide +kernel
theorem dX0_closeFile_12 : decode cX0_closeFile 12 = .ok (.aload_n 0, 1) := by decide +kernel
theorem dX0_closeFile_13 : decode cX0_closeFile 13 = .ok (.getfield 119, 3) := by decide +kernel
theorem dX0_closeFile_16 : decode cX0_closeFile 16 = .ok (.invokevirtual 129, 3) := by decide +kernel
theorem dX0_closeFile_19 : decode cX0_closeFile 19 = .ok (.aload_n 0, 1) := by decide +kernel
theorem dX0_closeFile_20 : decode cX0_closeFile 20 = .ok (.iconst 0, 1) := by decide +kernel
theorem dX0_closeFile_21 : decode cX0_closeFile 21 = .ok (.putfield 31, 3) := by decide +kernel
theorem dX0_closeFile_24 : decode cX0_closeFile 24 = .ok (.aload_n 0, 1) := by decide +kernel
theorem dX0_closeFile_25 : decode cX0_closeFile 25 = .ok (.invokevirtual 34, 3) := by decide +kernel
theorem dX0_closeFile_28 : decode cX0_closeFile 28 = .ok (.goto 8, 3) := by decide +kernel
theorem dX0_closeFile_31 : decode cX0_closeFile 31 = .ok (.aload_n 0, 1) := by decide +kernel
theorem dX0_closeFile_32 : decode cX0_closeFile 32 = .ok (.iconst 1, 1) := by decide +kernel
theorem dX0_closeFile_33 : decode cX0_closeFile 33 = .ok (.putfield 104, 3) := by decide +kernel
theorem dX0_closeFile_36 : decode cX0_closeFile 36 = .ok (.return_, 1) := by decide +kernel
theorem dX0_expectHead_0 : decode cX0_expectHead 0 = .ok (.aload_n 0, 1) := by decide +kernel
theorem dX0_expectHead_1 : decode cX0_expectHead 1 = .ok (.iconst 0, 1) := by decide +kernel
theorem dX0_expectHead_2 : decode cX0_expectHead 2 = .ok (.putfield 76, 3) := by decide +kernel
theorem dX0_expectHead_5 : decode cX0_expectHead 5 = .ok (.aload_n 0, 1) := by decide +kernel
theorem dX0_expectHead_6 : decode cX0_expectHead 6 = .ok (.iconst 1, 1) := by decide +kernel
theorem dX0_expectHead_7 : decode cX0_expectHead 7 = .ok (.putfield 79, 3) := by decide +kernel
theorem dX0_expectHead_10 : decode cX0_expectHead 10 = .ok (.return_, 1) := by decide +kernel
theorem dX0_expectBlocks_0 : decode cX0_expectBlocks 0 = .ok (.aload_n 0, 1) := by decide +kernel
theorem dX0_expectBlocks_1 : decode cX0_expectBlocks 1 = .ok (.iconst 1, 1) := by decide +kernel
theorem dX0_expectBlocks_2 : decode cX0_expectBlocks 2 = .ok (.putfield 76, 3) := by decide +kernel
theorem dX0_expectBlocks_5 : decode cX0_expectBlocks 5 = .ok (.aload_n 0, 1) := by decide +kernel
theorem dX0_expectBlocks_6 : decode cX0_expectBlocks 6 = .ok (.iconst 0, 1) := by decide +kernel
theorem dX0_expectBlocks_7 : decode cX0_expectBlocks 7 = .ok (.putfield 79, 3) := by decide +kernel
theorem dX0_expectBlocks_10 : decode cX0_expectBlocks 10 = .ok (.return_, 1) := by decide +kernel
set_option maxRecDepth 20000 in
theorem ggX1_init_X3_init : GoodIn wsX1_init wsX3_init := goodIn_r _ [9, 10, 11, 12] (by decide +kernel) (by decide +kernel)
set_option maxRecDepth 20000 in
theorem gX1_init_X3_init_n3 : GoodIn wsX1_init (wsX3_init) := ggX1_init_X3_init
set_option maxRecDepth 20000 in
theorem ggX1_init_X2_init : GoodIn wsX1_init wsX2_init := goodIn_r _ [15, 16, 11, 12, 17, 18, 19, 20, 21, 22, 23, 24, 25, 26, 27, 28, 29] (by decide +kernel) (by decide +kernel)
set_option maxRecDepth 20000 in
theorem gX1_init_X2_init : GoodIn wsX1_init (wsX2_init) := ggX1_init_X2_init
theorem dX1_init_0 : decode cX1_init 0 = .ok (.aload_n 0, 1) := by decide +kernel
theorem dX1_init_1 : decode cX1_init 1 = .ok (.invokespecial 3, 3) := by decide +kernel
theorem dX1_init_4 : decode cX1_init 4 = .ok (.aload_n 0, 1) := by decide +kernel
theorem dX1_init_5 : decode cX1_init 5 = .ok (.new 9, 3) := by decide +kernel
theorem dX1_init_8 : decode cX1_init 8 = .ok (.dup, 1) := by decide +kernel
theorem dX1_init_9 : decode cX1_init 9 = .ok (.sipush 24000, 3) := by decide +kernel
theorem dX1_init_12 : decode cX1_init 12 = .ok (.invokespecial 11, 3) := by decide +kernel
theorem dX1_init_15 : decode cX1_init 15 = .ok (.putfield 14, 3) := by decide +kernel
theorem dX1_init_18 : decode cX1_init 18 = .ok (.aload_n 0, 1) := by decide +kernel
theorem dX1_init_19 : decode cX1_init 19 = .ok (.getstatic 20, 3) := by decide +kernel
theorem dX1_init_22 : decode cX1_init 22 = .ok (.putfield 26, 3) := by decide +kernel
theorem dX1_init_25 : decode cX1_init 25 = .ok (.return_, 1) := by decide +kernel
set_option maxRecDepth 20000 in
theorem ggX1_prepare_X3_startWork : GoodIn wsX1_prepare wsX3_startWork := goodIn_r _ [10, 11, 12, 13, 45, 46, 47, 48, 49, 50, 51, 52, 53, 35, 36, 37, 38, 39, 40, 41, 42, 43, 44] (by decide +kernel) (by decide +kernel)
set_option maxRecDepth 20000 in
theorem gX1_prepare_X3_startWork_u29X1 : GoodIn wsX1_prepare (va_wsU RX1 29 RX1 "BatchTransfer$Side" ⟨"BatchTransfer$Sender", "startWork", "(I)V"⟩ yX3_startWork wsX3_startWork) := goodIn_app (goodIn_of _ (by decide +kernel)) ggX1_prepare_X3_startWork
set_option maxRecDepth 20000 in
theorem ggX1_prepare_X1_goIntoFile : GoodIn wsX1_prepare wsX1_goIntoFile := goodIn_r _ [18, 19, 2, 20, 21, 22, 23, 24, 25, 26, 27, 28, 4, 29, 30, 31, 32, 33, 34, 35, 36, 37, 38, 39, 40, 41, 42, 43, 44, 45, 46, 47, 48, 49, 50, 51, 52, 53, 54, 55, 56, 57, 58, 59] (by decide +kernel) (by decide +kernel)
set_option maxRecDepth 20000 in
theorem gX1_prepare_X1_goIntoFile : GoodIn wsX1_prepare (wsV RX1 40 RX1 yX1_goIntoFile wsX1_goIntoFile) := goodIn_app (goodIn_of _ (by decide +kernel)) ggX1_prepare_X1_goIntoFile
theorem dX1_prepare_0 : decode cX1_prepare 0 = .ok (.aload_n 0, 1) := by decide +kernel
theorem dX1_prepare_1 : decode cX1_prepare 1 = .ok (.iload_n 1, 1) := by decide +kernel
theorem dX1_prepare_2 : decode cX1_prepare 2 = .ok (.invokevirtual 29, 3) := by decide +kernel
theorem dX1_prepare_5 : decode cX1_prepare 5 = .ok (.aload_n 0, 1) := by decide +kernel
theorem dX1_prepare_6 : decode cX1_prepare 6 = .ok (.iconst 0, 1) := by decide +kernel
theorem dX1_prepare_7 : decode cX1_prepare 7 = .ok (.putfield 32, 3) := by decide +kernel
theorem dX1_prepare_10 : decode cX1_prepare 10 = .ok (.aload_n 0, 1) := by decide +kernel
theorem dX1_prepare_11 : decode cX1_prepare 11 = .ok (.iconst 0, 1) := by decide +kernel
theorem dX1_prepare_12 : decode cX1_prepare 12 = .ok (.putfield 36, 3) := by decide +kernel
theorem dX1_prepare_15 : decode cX1_prepare 15 = .ok (.iload_n 1, 1) := by decide +kernel
theorem dX1_prepare_16 : decode cX1_prepare 16 = .ok (.iconst 3, 1) := by decide +kernel
theorem dX1_prepare_17 : decode cX1_prepare 17 = .ok (.if_icmp .ne 13, 3) := by decide +kernel
theorem dX1_prepare_20 : decode cX1_prepare 20 = .ok (.aload_n 0, 1) := by decide +kernel
theorem dX1_prepare_21 : decode cX1_prepare 21 = .ok (.getstatic 20, 3) := by decide +kernel
theorem dX1_prepare_24 : decode cX1_prepare 24 = .ok (.putfield 26, 3) := by decide +kernel
theorem dX1_prepare_27 : decode cX1_prepare 27 = .ok (.goto 7, 3) := by decide +kernel
theorem dX1_prepare_30 : decode cX1_prepare 30 = .ok (.aload_n 0, 1) := by decide +kernel
theorem dX1_prepare_31 : decode cX1_prepare 31 = .ok (.invokevirtual 40, 3) := by decide +kernel
theorem dX1_prepare_34 : decode cX1_prepare 34 = .ok (.return_, 1) := by decide +kernel
set_option maxRecDepth 20000 in
theorem ggX1_answer_X7_askOf : GoodIn wsX1_answer wsX7_askOf := goodIn_r _ [8] (by decide +kernel) (by decide +kernel)
set_option maxRecDepth 20000 in
theorem gX1_answer_X7_askOf_n46 : GoodIn wsX1_answer (wsX7_askOf) := ggX1_answer_X7_askOf
set_option maxRecDepth 20000 in
theorem ggX1_answer_X6_isByte : GoodIn wsX1_answer wsX6_isByte := goodIn_r _ [13, 14, 15, 16, 17, 12, 18, 19, 146, 147] (by decide +kernel) (by decide +kernel)
set_option maxRecDepth 20000 in
theorem gX1_answer_X6_isByte : GoodIn wsX1_answer (wsV RX1 50 RX6 yX6_isByte wsX6_isByte) := goodIn_app (goodIn_of _ (by decide +kernel)) ggX1_answer_X6_isByte
set_option maxRecDepth 20000 in
theorem ggX1_answer_X1_putUnit : GoodIn wsX1_answer wsX1_putUnit := goodIn_r _ [24, 25, 26, 27, 28, 29, 30, 31, 32, 12, 33, 14, 34, 35, 36, 23, 37, 38, 39, 40, 41, 42, 43, 44, 45, 46, 47, 2, 3, 48, 49, 50, 51, 19, 52, 53, 54, 55, 56, 57, 58, 59, 60, 61, 62, 63, 64, 65, 66, 67, 68, 69, 70, 71, 72, 73, 74, 75, 76, 77, 78, 79, 80, 81, 82, 83, 84, 85, 86, 87, 88, 89, 90, 91, 92, 93, 137, 138, 139, 140, 141, 142, 143, 144, 145, 127, 128, 129, 130, 131, 132, 133, 134, 135, 136, 146, 147, 148, 149, 150, 151, 152, 153] (by decide +kernel) (by decide +kernel)
set_option maxRecDepth 20000 in
theorem gX1_answer_X1_putUnit : GoodIn wsX1_answer (wsV RX1 56 RX1 yX1_putUnit wsX1_putUnit) := goodIn_app (goodIn_of _ (by decide +kernel)) ggX1_answer_X1_putUnit
set_option maxRecDepth 20000 in
theorem ggX1_answer_X1_goToNextUnit : GoodIn wsX1_answer wsX1_goToNextUnit := goodIn_r _ [97, 27, 28, 29, 98, 99, 100, 23, 101, 38, 39, 25, 26, 78, 102, 80, 47, 81, 103, 52, 53, 54, 55, 56, 57, 104, 105, 106, 107, 82, 83, 84, 85, 86, 87, 88, 89, 2, 3, 108, 109, 110, 111, 127, 128, 129, 130, 131, 132, 133, 134, 135, 136, 137, 138, 139, 140, 141, 142, 143, 144, 145, 148, 149, 150, 151, 152, 153] (by decide +kernel) (by decide +kernel)
set_option maxRecDepth 20000 in
theorem gX1_answer_X1_goToNextUnit : GoodIn wsX1_answer (wsV RX1 63 RX1 yX1_goToNextUnit wsX1_goToNextUnit) := goodIn_app (goodIn_of _ (by decide +kernel)) ggX1_answer_X1_goToNextUnit
set_option maxRecDepth 20000 in
theorem ggX1_answer_X3_bearsMiss : GoodIn wsX1_answer wsX3_bearsMiss := goodIn_r _ [117, 118, 119, 120, 121, 122, 116, 123, 124, 125, 91, 92, 12, 93, 19, 14, 126, 137, 138, 139, 140, 141, 142, 143, 144, 145, 127, 128, 129, 130, 131, 132, 133, 134, 135, 136, 146, 147] (by decide +kernel) (by decide +kernel)
set_option maxRecDepth 20000 in
theorem gX1_answer_X3_bearsMiss_u66X1 : GoodIn wsX1_answer (va_wsU RX1 66 RX1 "BatchTransfer$Side" ⟨"BatchTransfer$Sender", "bearsMiss", "(LBatchTransfer$Wire;)Z"⟩ yX3_bearsMiss wsX3_bearsMiss) := goodIn_app (goodIn_of _ (by decide +kernel)) ggX1_answer_X3_bearsMiss
set_option maxRecDepth 20000 in
theorem ggX1_answer_X6_putByte : GoodIn wsX1_answer wsX6_putByte := goodIn_r _ [93, 19, 14, 146, 147] (by decide +kernel) (by decide +kernel)
set_option maxRecDepth 20000 in
theorem gX1_answer_X6_putByte : GoodIn wsX1_answer (wsV RX1 70 RX6 yX6_putByte wsX6_putByte) := goodIn_app (goodIn_of _ (by decide +kernel)) ggX1_answer_X6_putByte
theorem dX1_answer_0 : decode cX1_answer 0 = .ok (.aload_n 0, 1) := by decide +kernel
theorem dX1_answer_1 : decode cX1_answer 1 = .ok (.getfield 32, 3) := by decide +kernel
theorem dX1_answer_4 : decode cX1_answer 4 = .ok (.ifCond .ne 30, 3) := by decide +kernel
theorem dX1_answer_7 : decode cX1_answer 7 = .ok (.aload_n 1, 1) := by decide +kernel
theorem dX1_answer_8 : decode cX1_answer 8 = .ok (.aload_n 0, 1) := by decide +kernel
theorem dX1_answer_9 : decode cX1_answer 9 = .ok (.getfield 43, 3) := by decide +kernel
theorem dX1_answer_12 : decode cX1_answer 12 = .ok (.invokestatic 46, 3) := by decide +kernel
theorem dX1_answer_15 : decode cX1_answer 15 = .ok (.invokevirtual 50, 3) := by decide +kernel
theorem dX1_answer_18 : decode cX1_answer 18 = .ok (.ifCond .eq 16, 3) := by decide +kernel
theorem dX1_answer_21 : decode cX1_answer 21 = .ok (.aload_n 0, 1) := by decide +kernel
theorem dX1_answer_22 : decode cX1_answer 22 = .ok (.iconst 1, 1) := by decide +kernel
theorem dX1_answer_23 : decode cX1_answer 23 = .ok (.putfield 32, 3) := by decide +kernel
theorem dX1_answer_26 : decode cX1_answer 26 = .ok (.aload_n 0, 1) := by decide +kernel
theorem dX1_answer_27 : decode cX1_answer 27 = .ok (.aload_n 1, 1) := by decide +kernel
theorem dX1_answer_28 : decode cX1_answer 28 = .ok (.invokevirtual 56, 3) := by decide +kernel
theorem dX1_answer_31 : decode cX1_answer 31 = .ok (.goto 64, 3) := by decide +kernel
theorem dX1_answer_34 : decode cX1_answer 34 = .ok (.aload_n 0, 1) := by decide +kernel
theorem dX1_answer_35 : decode cX1_answer 35 = .ok (.getfield 32, 3) := by decide +kernel
theorem dX1_answer_38 : decode cX1_answer 38 = .ok (.ifCond .eq 29, 3) := by decide +kernel
theorem dX1_answer_41 : decode cX1_answer 41 = .ok (.aload_n 1, 1) := by decide +kernel
theorem dX1_answer_42 : decode cX1_answer 42 = .ok (.bipush 6, 2) := by decide +kernel
theorem dX1_answer_44 : decode cX1_answer 44 = .ok (.invokevirtual 50, 3) := by decide +kernel
theorem dX1_answer_47 : decode cX1_answer 47 = .ok (.ifCond .eq 20, 3) := by decide +kernel
theorem dX1_answer_50 : decode cX1_answer 50 = .ok (.aload_n 0, 1) := by decide +kernel
theorem dX1_answer_51 : decode cX1_answer 51 = .ok (.iconst 0, 1) := by decide +kernel
theorem dX1_answer_52 : decode cX1_answer 52 = .ok (.putfield 60, 3) := by decide +kernel
theorem dX1_answer_55 : decode cX1_answer 55 = .ok (.aload_n 0, 1) := by decide +kernel
theorem dX1_answer_56 : decode cX1_answer 56 = .ok (.invokevirtual 63, 3) := by decide +kernel
theorem dX1_answer_59 : decode cX1_answer 59 = .ok (.aload_n 0, 1) := by decide +kernel
theorem dX1_answer_60 : decode cX1_answer 60 = .ok (.aload_n 1, 1) := by decide +kernel
theorem dX1_answer_61 : decode cX1_answer 61 = .ok (.invokevirtual 56, 3) := by decide +kernel
theorem dX1_answer_64 : decode cX1_answer 64 = .ok (.goto 31, 3) := by decide +kernel
theorem dX1_answer_67 : decode cX1_answer 67 = .ok (.aload_n 0, 1) := by decide +kernel
theorem dX1_answer_68 : decode cX1_answer 68 = .ok (.aload_n 1, 1) := by decide +kernel
theorem dX1_answer_69 : decode cX1_answer 69 = .ok (.invokevirtual 66, 3) := by decide +kernel
theorem dX1_answer_72 : decode cX1_answer 72 = .ok (.ifCond .eq 23, 3) := by decide +kernel
theorem dX1_answer_75 : decode cX1_answer 75 = .ok (.aload_n 0, 1) := by decide +kernel
theorem dX1_answer_76 : decode cX1_answer 76 = .ok (.getfield 32, 3) := by decide +kernel
theorem dX1_answer_79 : decode cX1_answer 79 = .ok (.ifCond .eq 11, 3) := by decide +kernel
theorem dX1_answer_82 : decode cX1_answer 82 = .ok (.aload_n 0, 1) := by decide +kernel
theorem dX1_answer_83 : decode cX1_answer 83 = .ok (.aload_n 1, 1) := by decide +kernel
theorem dX1_answer_84 : decode cX1_answer 84 = .ok (.invokevirtual 56, 3) := by decide +kernel
theorem dX1_answer_87 : decode cX1_answer 87 = .ok (.goto 8, 3) := by decide +kernel
theorem dX1_answer_90 : decode cX1_answer 90 = .ok (.aload_n 1, 1) := by decide +kernel
theorem dX1_answer_91 : decode cX1_answer 91 = .ok (.iconst 0, 1) := by decide +kernel
theorem dX1_answer_92 : decode cX1_answer 92 = .ok (.invokevirtual 70, 3) := by decide +kernel
theorem dX1_answer_95 : decode cX1_answer 95 = .ok (.return_, 1) := by decide +kernel
set_option maxRecDepth 20000 in
theorem ggX1_goToNextUnit_X1_goIntoFile : GoodIn wsX1_goToNextUnit wsX1_goIntoFile := goodIn_r _ [8, 9, 10, 11, 12, 13, 14, 15, 16, 17, 3, 18, 1, 19, 20, 21, 22, 23, 24, 43, 44, 45, 46, 47, 48, 49, 50, 51, 52, 53, 54, 55, 56, 57, 58, 59, 60, 61, 62, 63, 64, 65, 66, 67] (by decide +kernel) (by decide +kernel)
set_option maxRecDepth 20000 in
theorem gX1_goToNextUnit_X1_goIntoFile : GoodIn wsX1_goToNextUnit (wsV RX1 40 RX1 yX1_goIntoFile wsX1_goIntoFile) := goodIn_app (goodIn_of _ (by decide +kernel)) ggX1_goToNextUnit_X1_goIntoFile
set_option maxRecDepth 20000 in
theorem ggX1_goToNextUnit_X1_goBehindBlock : GoodIn wsX1_goToNextUnit wsX1_goBehindBlock := goodIn_r _ [28, 17, 29, 30, 31, 32, 13, 15, 3, 18, 1, 33, 34, 35, 7, 36, 37, 38, 43, 44, 45, 46, 47, 48, 49, 50, 51, 52, 53, 54, 55, 56, 57, 58, 59, 60, 61] (by decide +kernel) (by decide +kernel)
set_option maxRecDepth 20000 in
theorem gX1_goToNextUnit_X1_goBehindBlock : GoodIn wsX1_goToNextUnit (wsV RX1 76 RX1 yX1_goBehindBlock wsX1_goBehindBlock) := goodIn_app (goodIn_of _ (by decide +kernel)) ggX1_goToNextUnit_X1_goBehindBlock
set_option maxRecDepth 20000 in
theorem ggX1_goToNextUnit_X1_goBehindFile : GoodIn wsX1_goToNextUnit wsX1_goBehindFile := goodIn_r _ [42, 37, 38, 10, 2, 1, 11, 12, 53, 54, 55, 56, 57, 58, 59, 60, 61, 43, 44, 45, 46, 47, 48, 49, 50, 51, 52] (by decide +kernel) (by decide +kernel)
set_option maxRecDepth 20000 in
theorem gX1_goToNextUnit_X1_goBehindFile : GoodIn wsX1_goToNextUnit (wsV RX1 79 RX1 yX1_goBehindFile wsX1_goBehindFile) := goodIn_app (goodIn_of _ (by decide +kernel)) ggX1_goToNextUnit_X1_goBehindFile
theorem dX1_goToNextUnit_0 : decode cX1_goToNextUnit 0 = .ok (.aload_n 0, 1) := by decide +kernel
theorem dX1_goToNextUnit_1 : decode cX1_goToNextUnit 1 = .ok (.getfield 26, 3) := by decide +kernel
theorem dX1_goToNextUnit_4 : decode cX1_goToNextUnit 4 = .ok (.getstatic 20, 3) := by decide +kernel
theorem dX1_goToNextUnit_7 : decode cX1_goToNextUnit 7 = .ok (.if_acmp .ne 10, 3) := by decide +kernel
theorem dX1_goToNextUnit_10 : decode cX1_goToNextUnit 10 = .ok (.aload_n 0, 1) := by decide +kernel
theorem dX1_goToNextUnit_11 : decode cX1_goToNextUnit 11 = .ok (.invokevirtual 40, 3) := by decide +kernel
theorem dX1_goToNextUnit_14 : decode cX1_goToNextUnit 14 = .ok (.goto 24, 3) := by decide +kernel
theorem dX1_goToNextUnit_17 : decode cX1_goToNextUnit 17 = .ok (.aload_n 0, 1) := by decide +kernel
theorem dX1_goToNextUnit_18 : decode cX1_goToNextUnit 18 = .ok (.getfield 26, 3) := by decide +kernel
theorem dX1_goToNextUnit_21 : decode cX1_goToNextUnit 21 = .ok (.getstatic 73, 3) := by decide +kernel
theorem dX1_goToNextUnit_24 : decode cX1_goToNextUnit 24 = .ok (.if_acmp .ne 10, 3) := by decide +kernel
theorem dX1_goToNextUnit_27 : decode cX1_goToNextUnit 27 = .ok (.aload_n 0, 1) := by decide +kernel
theorem dX1_goToNextUnit_28 : decode cX1_goToNextUnit 28 = .ok (.invokevirtual 76, 3) := by decide +kernel
theorem dX1_goToNextUnit_31 : decode cX1_goToNextUnit 31 = .ok (.goto 7, 3) := by decide +kernel
theorem dX1_goToNextUnit_34 : decode cX1_goToNextUnit 34 = .ok (.aload_n 0, 1) := by decide +kernel
theorem dX1_goToNextUnit_35 : decode cX1_goToNextUnit 35 = .ok (.invokevirtual 79, 3) := by decide +kernel
theorem dX1_goToNextUnit_38 : decode cX1_goToNextUnit 38 = .ok (.return_, 1) := by decide +kernel
set_option maxRecDepth 20000 in
theorem ggX1_goIntoFile_X2_has : GoodIn wsX1_goIntoFile wsX2_has := goodIn_r _ [17, 18, 38, 39, 40, 41, 42, 43] (by decide +kernel) (by decide +kernel)
set_option maxRecDepth 20000 in
theorem gX1_goIntoFile_X2_has : GoodIn wsX1_goIntoFile (wsV RX1 82 RX2 yX2_has wsX2_has) := goodIn_app (goodIn_of _ (by decide +kernel)) ggX1_goIntoFile_X2_has
theorem dX1_goIntoFile_0 : decode cX1_goIntoFile 0 = .ok (.aload_n 0, 1) := by decide +kernel
theorem dX1_goIntoFile_1 : decode cX1_goIntoFile 1 = .ok (.getfield 14, 3) := by decide +kernel
theorem dX1_goIntoFile_4 : decode cX1_goIntoFile 4 = .ok (.aload_n 0, 1) := by decide +kernel
theorem dX1_goIntoFile_5 : decode cX1_goIntoFile 5 = .ok (.getfield 36, 3) := by decide +kernel
theorem dX1_goIntoFile_8 : decode cX1_goIntoFile 8 = .ok (.invokevirtual 82, 3) := by decide +kernel
theorem dX1_goIntoFile_11 : decode cX1_goIntoFile 11 = .ok (.ifCond .ne 9, 3) := by decide +kernel
theorem dX1_goIntoFile_14 : decode cX1_goIntoFile 14 = .ok (.aload_n 0, 1) := by decide +kernel
theorem dX1_goIntoFile_15 : decode cX1_goIntoFile 15 = .ok (.iconst 1, 1) := by decide +kernel
theorem dX1_goIntoFile_16 : decode cX1_goIntoFile 16 = .ok (.putfield 85, 3) := by decide +kernel
theorem dX1_goIntoFile_19 : decode cX1_goIntoFile 19 = .ok (.return_, 1) := by decide +kernel
theorem dX1_goIntoFile_20 : decode cX1_goIntoFile 20 = .ok (.aload_n 0, 1) := by decide +kernel
theorem dX1_goIntoFile_21 : decode cX1_goIntoFile 21 = .ok (.iconst 1, 1) := by decide +kernel
theorem dX1_goIntoFile_22 : decode cX1_goIntoFile 22 = .ok (.putfield 88, 3) := by decide +kernel
theorem dX1_goIntoFile_25 : decode cX1_goIntoFile 25 = .ok (.aload_n 0, 1) := by decide +kernel
theorem dX1_goIntoFile_26 : decode cX1_goIntoFile 26 = .ok (.aload_n 0, 1) := by decide +kernel
theorem dX1_goIntoFile_27 : decode cX1_goIntoFile 27 = .ok (.getfield 14, 3) := by decide +kernel
theorem dX1_goIntoFile_30 : decode cX1_goIntoFile 30 = .ok (.getfield 91, 3) := by decide +kernel
theorem dX1_goIntoFile_33 : decode cX1_goIntoFile 33 = .ok (.aload_n 0, 1) := by decide +kernel
theorem dX1_goIntoFile_34 : decode cX1_goIntoFile 34 = .ok (.getfield 36, 3) := by decide +kernel
theorem dX1_goIntoFile_37 : decode cX1_goIntoFile 37 = .ok (.iaload, 1) := by decide +kernel
theorem dX1_goIntoFile_38 : decode cX1_goIntoFile 38 = .ok (.putfield 95, 3) := by decide +kernel
theorem dX1_goIntoFile_41 : decode cX1_goIntoFile 41 = .ok (.aload_n 0, 1) := by decide +kernel
theorem dX1_goIntoFile_42 : decode cX1_goIntoFile 42 = .ok (.aload_n 0, 1) := by decide +kernel
theorem dX1_goIntoFile_43 : decode cX1_goIntoFile 43 = .ok (.getfield 14, 3) := by decide +kernel
theorem dX1_goIntoFile_46 : decode cX1_goIntoFile 46 = .ok (.getfield 98, 3) := by decide +kernel
theorem dX1_goIntoFile_49 : decode cX1_goIntoFile 49 = .ok (.aload_n 0, 1) := by decide +kernel
theorem dX1_goIntoFile_50 : decode cX1_goIntoFile 50 = .ok (.getfield 36, 3) := by decide +kernel
theorem dX1_goIntoFile_53 : decode cX1_goIntoFile 53 = .ok (.iaload, 1) := by decide +kernel
theorem dX1_goIntoFile_54 : decode cX1_goIntoFile 54 = .ok (.putfield 101, 3) := by decide +kernel
theorem dX1_goIntoFile_57 : decode cX1_goIntoFile 57 = .ok (.aload_n 0, 1) := by decide +kernel
theorem dX1_goIntoFile_58 : decode cX1_goIntoFile 58 = .ok (.aload_n 0, 1) := by decide +kernel
theorem dX1_goIntoFile_59 : decode cX1_goIntoFile 59 = .ok (.getfield 101, 3) := by decide +kernel
theorem dX1_goIntoFile_62 : decode cX1_goIntoFile 62 = .ok (.ifCond .le 9, 3) := by decide +kernel
theorem dX1_goIntoFile_65 : decode cX1_goIntoFile 65 = .ok (.getstatic 73, 3) := by decide +kernel
theorem dX1_goIntoFile_68 : decode cX1_goIntoFile 68 = .ok (.goto 6, 3) := by decide +kernel
theorem dX1_goIntoFile_71 : decode cX1_goIntoFile 71 = .ok (.getstatic 104, 3) := by decide +kernel
theorem dX1_goIntoFile_74 : decode cX1_goIntoFile 74 = .ok (.putfield 26, 3) := by decide +kernel
theorem dX1_goIntoFile_77 : decode cX1_goIntoFile 77 = .ok (.return_, 1) := by decide +kernel
set_option maxRecDepth 20000 in
theorem ggX1_goBehindBlock_X1_blockLength : GoodIn wsX1_goBehindBlock wsX1_blockLength := goodIn_r _ [15, 16, 17, 1, 28, 29, 30, 31, 32, 33, 34, 35, 36, 18, 19, 20, 21, 22, 23, 24, 25, 26, 27] (by decide +kernel) (by decide +kernel)
set_option maxRecDepth 20000 in
theorem gX1_goBehindBlock_X1_blockLength : GoodIn wsX1_goBehindBlock (wsV RX1 107 RX1 yX1_blockLength wsX1_blockLength) := goodIn_app (goodIn_of _ (by decide +kernel)) ggX1_goBehindBlock_X1_blockLength
theorem dX1_goBehindBlock_0 : decode cX1_goBehindBlock 0 = .ok (.aload_n 0, 1) := by decide +kernel
theorem dX1_goBehindBlock_1 : decode cX1_goBehindBlock 1 = .ok (.invokevirtual 107, 3) := by decide +kernel
theorem dX1_goBehindBlock_4 : decode cX1_goBehindBlock 4 = .ok (.aload_n 0, 1) := by decide +kernel
theorem dX1_goBehindBlock_5 : decode cX1_goBehindBlock 5 = .ok (.getfield 101, 3) := by decide +kernel
theorem dX1_goBehindBlock_8 : decode cX1_goBehindBlock 8 = .ok (.invokestatic 111, 3) := by decide +kernel
theorem dX1_goBehindBlock_11 : decode cX1_goBehindBlock 11 = .ok (.istore_n 1, 1) := by decide +kernel
theorem dX1_goBehindBlock_12 : decode cX1_goBehindBlock 12 = .ok (.aload_n 0, 1) := by decide +kernel
theorem dX1_goBehindBlock_13 : decode cX1_goBehindBlock 13 = .ok (.dup, 1) := by decide +kernel
theorem dX1_goBehindBlock_14 : decode cX1_goBehindBlock 14 = .ok (.getfield 88, 3) := by decide +kernel
theorem dX1_goBehindBlock_17 : decode cX1_goBehindBlock 17 = .ok (.iconst 1, 1) := by decide +kernel
theorem dX1_goBehindBlock_18 : decode cX1_goBehindBlock 18 = .ok (.iadd, 1) := by decide +kernel
theorem dX1_goBehindBlock_19 : decode cX1_goBehindBlock 19 = .ok (.putfield 88, 3) := by decide +kernel
theorem dX1_goBehindBlock_22 : decode cX1_goBehindBlock 22 = .ok (.aload_n 0, 1) := by decide +kernel
theorem dX1_goBehindBlock_23 : decode cX1_goBehindBlock 23 = .ok (.dup, 1) := by decide +kernel
theorem dX1_goBehindBlock_24 : decode cX1_goBehindBlock 24 = .ok (.getfield 95, 3) := by decide +kernel
theorem dX1_goBehindBlock_27 : decode cX1_goBehindBlock 27 = .ok (.iload_n 1, 1) := by decide +kernel
theorem dX1_goBehindBlock_28 : decode cX1_goBehindBlock 28 = .ok (.iadd, 1) := by decide +kernel
theorem dX1_goBehindBlock_29 : decode cX1_goBehindBlock 29 = .ok (.putfield 95, 3) := by decide +kernel
theorem dX1_goBehindBlock_32 : decode cX1_goBehindBlock 32 = .ok (.aload_n 0, 1) := by decide +kernel
theorem dX1_goBehindBlock_33 : decode cX1_goBehindBlock 33 = .ok (.dup, 1) := by decide +kernel
theorem dX1_goBehindBlock_34 : decode cX1_goBehindBlock 34 = .ok (.getfield 101, 3) := by decide +kernel
theorem dX1_goBehindBlock_37 : decode cX1_goBehindBlock 37 = .ok (.iload_n 1, 1) := by decide +kernel
theorem dX1_goBehindBlock_38 : decode cX1_goBehindBlock 38 = .ok (.isub, 1) := by decide +kernel
theorem dX1_goBehindBlock_39 : decode cX1_goBehindBlock 39 = .ok (.putfield 101, 3) := by decide +kernel
theorem dX1_goBehindBlock_42 : decode cX1_goBehindBlock 42 = .ok (.aload_n 0, 1) := by decide +kernel
theorem dX1_goBehindBlock_43 : decode cX1_goBehindBlock 43 = .ok (.aload_n 0, 1) := by decide +kernel
theorem dX1_goBehindBlock_44 : decode cX1_goBehindBlock 44 = .ok (.getfield 101, 3) := by decide +kernel
theorem dX1_goBehindBlock_47 : decode cX1_goBehindBlock 47 = .ok (.ifCond .le 9, 3) := by decide +kernel
theorem dX1_goBehindBlock_50 : decode cX1_goBehindBlock 50 = .ok (.getstatic 73, 3) := by decide +kernel
theorem dX1_goBehindBlock_53 : decode cX1_goBehindBlock 53 = .ok (.goto 6, 3) := by decide +kernel
theorem dX1_goBehindBlock_56 : decode cX1_goBehindBlock 56 = .ok (.getstatic 104, 3) := by decide +kernel
theorem dX1_goBehindBlock_59 : decode cX1_goBehindBlock 59 = .ok (.putfield 26, 3) := by decide +kernel
theorem dX1_goBehindBlock_62 : decode cX1_goBehindBlock 62 = .ok (.return_, 1) := by decide +kernel
theorem dX1_goBehindFile_0 : decode cX1_goBehindFile 0 = .ok (.aload_n 0, 1) := by decide +kernel
theorem dX1_goBehindFile_1 : decode cX1_goBehindFile 1 = .ok (.getfield 43, 3) := by decide +kernel
theorem dX1_goBehindFile_4 : decode cX1_goBehindFile 4 = .ok (.iconst 3, 1) := by decide +kernel
theorem dX1_goBehindFile_5 : decode cX1_goBehindFile 5 = .ok (.if_icmp .ne 23, 3) := by decide +kernel
theorem dX1_goBehindFile_8 : decode cX1_goBehindFile 8 = .ok (.aload_n 0, 1) := by decide +kernel
theorem dX1_goBehindFile_9 : decode cX1_goBehindFile 9 = .ok (.dup, 1) := by decide +kernel
theorem dX1_goBehindFile_10 : decode cX1_goBehindFile 10 = .ok (.getfield 36, 3) := by decide +kernel
theorem dX1_goBehindFile_13 : decode cX1_goBehindFile 13 = .ok (.iconst 1, 1) := by decide +kernel
theorem dX1_goBehindFile_14 : decode cX1_goBehindFile 14 = .ok (.iadd, 1) := by decide +kernel
theorem dX1_goBehindFile_15 : decode cX1_goBehindFile 15 = .ok (.putfield 36, 3) := by decide +kernel
theorem dX1_goBehindFile_18 : decode cX1_goBehindFile 18 = .ok (.aload_n 0, 1) := by decide +kernel
theorem dX1_goBehindFile_19 : decode cX1_goBehindFile 19 = .ok (.getstatic 20, 3) := by decide +kernel
theorem dX1_goBehindFile_22 : decode cX1_goBehindFile 22 = .ok (.putfield 26, 3) := by decide +kernel
theorem dX1_goBehindFile_25 : decode cX1_goBehindFile 25 = .ok (.goto 8, 3) := by decide +kernel
theorem dX1_goBehindFile_28 : decode cX1_goBehindFile 28 = .ok (.aload_n 0, 1) := by decide +kernel
theorem dX1_goBehindFile_29 : decode cX1_goBehindFile 29 = .ok (.iconst 1, 1) := by decide +kernel
theorem dX1_goBehindFile_30 : decode cX1_goBehindFile 30 = .ok (.putfield 85, 3) := by decide +kernel
theorem dX1_goBehindFile_33 : decode cX1_goBehindFile 33 = .ok (.return_, 1) := by decide +kernel
set_option maxRecDepth 20000 in
theorem ggX1_putUnit_X6_empty : GoodIn wsX1_putUnit wsX6_empty := goodIn_r _ [10, 11, 95, 96] (by decide +kernel) (by decide +kernel)
set_option maxRecDepth 20000 in
theorem gX1_putUnit_X6_empty : GoodIn wsX1_putUnit (wsV RX1 117 RX6 yX6_empty wsX6_empty) := goodIn_app (goodIn_of _ (by decide +kernel)) ggX1_putUnit_X6_empty
set_option maxRecDepth 20000 in
theorem ggX1_putUnit_X1_putHead : GoodIn wsX1_putUnit wsX1_putHead := goodIn_r _ [16, 17, 18, 19, 20, 21, 22, 23, 24, 25, 26, 27, 28, 29, 30, 31, 9, 32, 33, 11, 34, 35, 36, 37, 38, 39, 40, 41, 15, 42, 43, 44, 45, 46, 47, 48, 49, 50, 51, 52, 53, 54, 55, 85, 86, 87, 88, 89, 90, 91, 92, 93, 94, 97, 98, 99, 100, 101, 102, 95, 96, 76, 77, 78, 79, 80, 81, 82, 83, 84] (by decide +kernel) (by decide +kernel)
set_option maxRecDepth 20000 in
theorem gX1_putUnit_X1_putHead : GoodIn wsX1_putUnit (wsV RX1 120 RX1 yX1_putHead wsX1_putHead) := goodIn_app (goodIn_of _ (by decide +kernel)) ggX1_putUnit_X1_putHead
set_option maxRecDepth 20000 in
theorem ggX1_putUnit_X1_putBlock : GoodIn wsX1_putUnit wsX1_putBlock := goodIn_r _ [59, 60, 17, 61, 62, 21, 63, 64, 65, 66, 67, 22, 23, 24, 25, 27, 28, 68, 69, 70, 15, 71, 29, 30, 31, 9, 32, 33, 11, 43, 44, 45, 46, 47, 48, 49, 50, 51, 52, 53, 54, 55, 85, 86, 87, 88, 89, 90, 91, 92, 93, 94, 97, 98, 99, 100, 101, 102, 95, 96, 76, 77, 78, 79, 80, 81, 82, 83, 84] (by decide +kernel) (by decide +kernel)
set_option maxRecDepth 20000 in
theorem gX1_putUnit_X1_putBlock : GoodIn wsX1_putUnit (wsV RX1 123 RX1 yX1_putBlock wsX1_putBlock) := goodIn_app (goodIn_of _ (by decide +kernel)) ggX1_putUnit_X1_putBlock
set_option maxRecDepth 20000 in
theorem ggX1_putUnit_X6_putByte : GoodIn wsX1_putUnit wsX6_putByte := goodIn_r _ [75, 33, 11, 95, 96] (by decide +kernel) (by decide +kernel)
set_option maxRecDepth 20000 in
theorem gX1_putUnit_X6_putByte : GoodIn wsX1_putUnit (wsV RX1 70 RX6 yX6_putByte wsX6_putByte) := goodIn_app (goodIn_of _ (by decide +kernel)) ggX1_putUnit_X6_putByte
theorem dX1_putUnit_0 : decode cX1_putUnit 0 = .ok (.aload_n 0, 1) := by decide +kernel
theorem dX1_putUnit_1 : decode cX1_putUnit 1 = .ok (.getfield 85, 3) := by decide +kernel
theorem dX1_putUnit_4 : decode cX1_putUnit 4 = .ok (.iconst 1, 1) := by decide +kernel
theorem dX1_putUnit_5 : decode cX1_putUnit 5 = .ok (.if_icmp .ne 10, 3) := by decide +kernel
theorem dX1_putUnit_8 : decode cX1_putUnit 8 = .ok (.aload_n 1, 1) := by decide +kernel
theorem dX1_putUnit_9 : decode cX1_putUnit 9 = .ok (.invokevirtual 117, 3) := by decide +kernel
theorem dX1_putUnit_12 : decode cX1_putUnit 12 = .ok (.goto 44, 3) := by decide +kernel
theorem dX1_putUnit_15 : decode cX1_putUnit 15 = .ok (.aload_n 0, 1) := by decide +kernel
theorem dX1_putUnit_16 : decode cX1_putUnit 16 = .ok (.getfield 26, 3) := by decide +kernel
theorem dX1_putUnit_19 : decode cX1_putUnit 19 = .ok (.getstatic 20, 3) := by decide +kernel
theorem dX1_putUnit_22 : decode cX1_putUnit 22 = .ok (.if_acmp .ne 11, 3) := by decide +kernel
theorem dX1_putUnit_25 : decode cX1_putUnit 25 = .ok (.aload_n 0, 1) := by decide +kernel
theorem dX1_putUnit_26 : decode cX1_putUnit 26 = .ok (.aload_n 1, 1) := by decide +kernel
theorem dX1_putUnit_27 : decode cX1_putUnit 27 = .ok (.invokevirtual 120, 3) := by decide +kernel
theorem dX1_putUnit_30 : decode cX1_putUnit 30 = .ok (.goto 26, 3) := by decide +kernel
theorem dX1_putUnit_33 : decode cX1_putUnit 33 = .ok (.aload_n 0, 1) := by decide +kernel
theorem dX1_putUnit_34 : decode cX1_putUnit 34 = .ok (.getfield 26, 3) := by decide +kernel
theorem dX1_putUnit_37 : decode cX1_putUnit 37 = .ok (.getstatic 73, 3) := by decide +kernel
theorem dX1_putUnit_40 : decode cX1_putUnit 40 = .ok (.if_acmp .ne 11, 3) := by decide +kernel
theorem dX1_putUnit_43 : decode cX1_putUnit 43 = .ok (.aload_n 0, 1) := by decide +kernel
theorem dX1_putUnit_44 : decode cX1_putUnit 44 = .ok (.aload_n 1, 1) := by decide +kernel
theorem dX1_putUnit_45 : decode cX1_putUnit 45 = .ok (.invokevirtual 123, 3) := by decide +kernel
theorem dX1_putUnit_48 : decode cX1_putUnit 48 = .ok (.goto 8, 3) := by decide +kernel
theorem dX1_putUnit_51 : decode cX1_putUnit 51 = .ok (.aload_n 1, 1) := by decide +kernel
theorem dX1_putUnit_52 : decode cX1_putUnit 52 = .ok (.iconst 4, 1) := by decide +kernel
theorem dX1_putUnit_53 : decode cX1_putUnit 53 = .ok (.invokevirtual 70, 3) := by decide +kernel
theorem dX1_putUnit_56 : decode cX1_putUnit 56 = .ok (.return_, 1) := by decide +kernel
set_option maxRecDepth 20000 in
theorem ggX1_putHead_X6_openBlock : GoodIn wsX1_putHead wsX6_openBlock := goodIn_r _ [17, 18, 19, 59, 60] (by decide +kernel) (by decide +kernel)
set_option maxRecDepth 20000 in
theorem gX1_putHead_X6_openBlock : GoodIn wsX1_putHead (wsV RX1 126 RX6 yX6_openBlock wsX6_openBlock) := goodIn_app (goodIn_of _ (by decide +kernel)) ggX1_putHead_X6_openBlock
set_option maxRecDepth 20000 in
theorem ggX1_putHead_X2_has : GoodIn wsX1_putHead wsX2_has := goodIn_r _ [24, 25, 53, 54, 55, 56, 57, 58] (by decide +kernel) (by decide +kernel)
set_option maxRecDepth 20000 in
theorem gX1_putHead_X2_has : GoodIn wsX1_putHead (wsV RX1 82 RX2 yX2_has wsX2_has) := goodIn_app (goodIn_of _ (by decide +kernel)) ggX1_putHead_X2_has
set_option maxRecDepth 20000 in
theorem ggX1_putHead_X1_putDigits : GoodIn wsX1_putHead wsX1_putDigits := goodIn_r _ [29, 5, 59, 60] (by decide +kernel) (by decide +kernel)
set_option maxRecDepth 20000 in
theorem gX1_putHead_X1_putDigits : GoodIn wsX1_putHead (va_wsS RX1 146 yX1_putDigits wsX1_putDigits) := goodIn_app (goodIn_of _ (by decide +kernel)) ggX1_putHead_X1_putDigits
set_option maxRecDepth 20000 in
theorem ggX1_putHead_X6_sealBlock : GoodIn wsX1_putHead wsX6_sealBlock := goodIn_r _ [33, 18, 19, 34, 35, 36, 16, 37, 38, 39, 40, 41, 42, 59, 60] (by decide +kernel) (by decide +kernel)
set_option maxRecDepth 20000 in
theorem gX1_putHead_X6_sealBlock : GoodIn wsX1_putHead (wsV RX1 150 RX6 yX6_sealBlock wsX6_sealBlock) := goodIn_app (goodIn_of _ (by decide +kernel)) ggX1_putHead_X6_sealBlock
theorem dX1_putHead_0 : decode cX1_putHead 0 = .ok (.aload_n 1, 1) := by decide +kernel
theorem dX1_putHead_1 : decode cX1_putHead 1 = .ok (.iconst 0, 1) := by decide +kernel
theorem dX1_putHead_2 : decode cX1_putHead 2 = .ok (.sipush 128, 3) := by decide +kernel
theorem dX1_putHead_5 : decode cX1_putHead 5 = .ok (.iconst 0, 1) := by decide +kernel
theorem dX1_putHead_6 : decode cX1_putHead 6 = .ok (.invokevirtual 126, 3) := by decide +kernel
theorem dX1_putHead_9 : decode cX1_putHead 9 = .ok (.aload_n 0, 1) := by decide +kernel
theorem dX1_putHead_10 : decode cX1_putHead 10 = .ok (.getfield 14, 3) := by decide +kernel
theorem dX1_putHead_13 : decode cX1_putHead 13 = .ok (.aload_n 0, 1) := by decide +kernel
theorem dX1_putHead_14 : decode cX1_putHead 14 = .ok (.getfield 36, 3) := by decide +kernel
theorem dX1_putHead_17 : decode cX1_putHead 17 = .ok (.invokevirtual 82, 3) := by decide +kernel
theorem dX1_putHead_20 : decode cX1_putHead 20 = .ok (.ifCond .eq 60, 3) := by decide +kernel
theorem dX1_putHead_23 : decode cX1_putHead 23 = .ok (.aload_n 0, 1) := by decide +kernel
theorem dX1_putHead_24 : decode cX1_putHead 24 = .ok (.getfield 14, 3) := by decide +kernel
theorem dX1_putHead_27 : decode cX1_putHead 27 = .ok (.getfield 130, 3) := by decide +kernel
theorem dX1_putHead_30 : decode cX1_putHead 30 = .ok (.aload_n 0, 1) := by decide +kernel
theorem dX1_putHead_31 : decode cX1_putHead 31 = .ok (.getfield 36, 3) := by decide +kernel
theorem dX1_putHead_34 : decode cX1_putHead 34 = .ok (.iaload, 1) := by decide +kernel
theorem dX1_putHead_35 : decode cX1_putHead 35 = .ok (.istore_n 2, 1) := by decide +kernel
theorem dX1_putHead_36 : decode cX1_putHead 36 = .ok (.aload_n 0, 1) := by decide +kernel
theorem dX1_putHead_37 : decode cX1_putHead 37 = .ok (.getfield 14, 3) := by decide +kernel
theorem dX1_putHead_40 : decode cX1_putHead 40 = .ok (.getfield 133, 3) := by decide +kernel
theorem dX1_putHead_43 : decode cX1_putHead 43 = .ok (.aload_n 0, 1) := by decide +kernel
theorem dX1_putHead_44 : decode cX1_putHead 44 = .ok (.getfield 36, 3) := by decide +kernel
theorem dX1_putHead_47 : decode cX1_putHead 47 = .ok (.bipush 12, 2) := by decide +kernel
theorem dX1_putHead_49 : decode cX1_putHead 49 = .ok (.imul, 1) := by decide +kernel
theorem dX1_putHead_50 : decode cX1_putHead 50 = .ok (.aload_n 1, 1) := by decide +kernel
theorem dX1_putHead_51 : decode cX1_putHead 51 = .ok (.getfield 137, 3) := by decide +kernel
theorem dX1_putHead_54 : decode cX1_putHead 54 = .ok (.iconst 3, 1) := by decide +kernel
theorem dX1_putHead_55 : decode cX1_putHead 55 = .ok (.iload_n 2, 1) := by decide +kernel
theorem dX1_putHead_56 : decode cX1_putHead 56 = .ok (.invokestatic 140, 3) := by decide +kernel
theorem dX1_putHead_59 : decode cX1_putHead 59 = .ok (.aload_n 1, 1) := by decide +kernel
theorem dX1_putHead_60 : decode cX1_putHead 60 = .ok (.iconst 3, 1) := by decide +kernel
theorem dX1_putHead_61 : decode cX1_putHead 61 = .ok (.iload_n 2, 1) := by decide +kernel
theorem dX1_putHead_62 : decode cX1_putHead 62 = .ok (.iadd, 1) := by decide +kernel
theorem dX1_putHead_63 : decode cX1_putHead 63 = .ok (.iconst 1, 1) := by decide +kernel
theorem dX1_putHead_64 : decode cX1_putHead 64 = .ok (.iadd, 1) := by decide +kernel
theorem dX1_putHead_65 : decode cX1_putHead 65 = .ok (.aload_n 0, 1) := by decide +kernel
theorem dX1_putHead_66 : decode cX1_putHead 66 = .ok (.getfield 14, 3) := by decide +kernel
theorem dX1_putHead_69 : decode cX1_putHead 69 = .ok (.getfield 98, 3) := by decide +kernel
theorem dX1_putHead_72 : decode cX1_putHead 72 = .ok (.aload_n 0, 1) := by decide +kernel
theorem dX1_putHead_73 : decode cX1_putHead 73 = .ok (.getfield 36, 3) := by decide +kernel
theorem dX1_putHead_76 : decode cX1_putHead 76 = .ok (.iaload, 1) := by decide +kernel
theorem dX1_putHead_77 : decode cX1_putHead 77 = .ok (.invokestatic 146, 3) := by decide +kernel
theorem dX1_putHead_80 : decode cX1_putHead 80 = .ok (.aload_n 1, 1) := by decide +kernel
theorem dX1_putHead_81 : decode cX1_putHead 81 = .ok (.aload_n 0, 1) := by decide +kernel
theorem dX1_putHead_82 : decode cX1_putHead 82 = .ok (.getfield 43, 3) := by decide +kernel
theorem dX1_putHead_85 : decode cX1_putHead 85 = .ok (.invokevirtual 150, 3) := by decide +kernel
theorem dX1_putHead_88 : decode cX1_putHead 88 = .ok (.return_, 1) := by decide +kernel
theorem dX1_putDigits_0 : decode cX1_putDigits 0 = .ok (.iload_n 1, 1) := by decide +kernel
theorem dX1_putDigits_1 : decode cX1_putDigits 1 = .ok (.istore_n 3, 1) := by decide +kernel
theorem dX1_putDigits_2 : decode cX1_putDigits 2 = .ok (.sipush 1000, 3) := by decide +kernel
theorem dX1_putDigits_5 : decode cX1_putDigits 5 = .ok (.istore 4, 2) := by decide +kernel
theorem dX1_putDigits_7 : decode cX1_putDigits 7 = .ok (.iload 4, 2) := by decide +kernel
theorem dX1_putDigits_9 : decode cX1_putDigits 9 = .ok (.iconst 1, 1) := by decide +kernel
theorem dX1_putDigits_10 : decode cX1_putDigits 10 = .ok (.if_icmp .lt 45, 3) := by decide +kernel
theorem dX1_putDigits_13 : decode cX1_putDigits 13 = .ok (.iload_n 2, 1) := by decide +kernel
theorem dX1_putDigits_14 : decode cX1_putDigits 14 = .ok (.iload 4, 2) := by decide +kernel
theorem dX1_putDigits_16 : decode cX1_putDigits 16 = .ok (.if_icmp .ge 9, 3) := by decide +kernel
theorem dX1_putDigits_19 : decode cX1_putDigits 19 = .ok (.iload 4, 2) := by decide +kernel
theorem dX1_putDigits_21 : decode cX1_putDigits 21 = .ok (.iconst 1, 1) := by decide +kernel
theorem dX1_putDigits_22 : decode cX1_putDigits 22 = .ok (.if_icmp .ne 23, 3) := by decide +kernel
theorem dX1_putDigits_25 : decode cX1_putDigits 25 = .ok (.aload_n 0, 1) := by decide +kernel
theorem dX1_putDigits_26 : decode cX1_putDigits 26 = .ok (.getfield 137, 3) := by decide +kernel
theorem dX1_putDigits_29 : decode cX1_putDigits 29 = .ok (.iload_n 3, 1) := by decide +kernel
theorem dX1_putDigits_30 : decode cX1_putDigits 30 = .ok (.bipush 48, 2) := by decide +kernel
theorem dX1_putDigits_32 : decode cX1_putDigits 32 = .ok (.iload_n 2, 1) := by decide +kernel
theorem dX1_putDigits_33 : decode cX1_putDigits 33 = .ok (.iload 4, 2) := by decide +kernel
theorem dX1_putDigits_35 : decode cX1_putDigits 35 = .ok (.idiv, 1) := by decide +kernel
theorem dX1_putDigits_36 : decode cX1_putDigits 36 = .ok (.bipush 10, 2) := by decide +kernel
theorem dX1_putDigits_38 : decode cX1_putDigits 38 = .ok (.irem, 1) := by decide +kernel
theorem dX1_putDigits_39 : decode cX1_putDigits 39 = .ok (.iadd, 1) := by decide +kernel
theorem dX1_putDigits_40 : decode cX1_putDigits 40 = .ok (.i2b, 1) := by decide +kernel
theorem dX1_putDigits_41 : decode cX1_putDigits 41 = .ok (.bastore, 1) := by decide +kernel
theorem dX1_putDigits_42 : decode cX1_putDigits 42 = .ok (.iinc 3 1, 3) := by decide +kernel
theorem dX1_putDigits_45 : decode cX1_putDigits 45 = .ok (.iload 4, 2) := by decide +kernel
theorem dX1_putDigits_47 : decode cX1_putDigits 47 = .ok (.bipush 10, 2) := by decide +kernel
theorem dX1_putDigits_49 : decode cX1_putDigits 49 = .ok (.idiv, 1) := by decide +kernel
theorem dX1_putDigits_50 : decode cX1_putDigits 50 = .ok (.istore 4, 2) := by decide +kernel
theorem dX1_putDigits_52 : decode cX1_putDigits 52 = .ok (.goto (-45), 3) := by decide +kernel
theorem dX1_putDigits_55 : decode cX1_putDigits 55 = .ok (.return_, 1) := by decide +kernel
set_option maxRecDepth 20000 in
theorem ggX1_putBlock_X1_blockLength : GoodIn wsX1_putBlock wsX1_blockLength := goodIn_r _ [21, 15, 16, 6, 60, 61, 62, 63, 64, 65, 66, 67, 68, 42, 43, 44, 45, 46, 47, 48, 49, 50, 51] (by decide +kernel) (by decide +kernel)
set_option maxRecDepth 20000 in
theorem gX1_putBlock_X1_blockLength : GoodIn wsX1_putBlock (wsV RX1 107 RX1 yX1_blockLength wsX1_blockLength) := goodIn_app (goodIn_of _ (by decide +kernel)) ggX1_putBlock_X1_blockLength
set_option maxRecDepth 20000 in
theorem ggX1_putBlock_X6_openBlock : GoodIn wsX1_putBlock wsX6_openBlock := goodIn_r _ [26, 27, 28, 58, 59] (by decide +kernel) (by decide +kernel)
set_option maxRecDepth 20000 in
theorem gX1_putBlock_X6_openBlock : GoodIn wsX1_putBlock (wsV RX1 126 RX6 yX6_openBlock wsX6_openBlock) := goodIn_app (goodIn_of _ (by decide +kernel)) ggX1_putBlock_X6_openBlock
set_option maxRecDepth 20000 in
theorem ggX1_putBlock_X6_sealBlock : GoodIn wsX1_putBlock wsX6_sealBlock := goodIn_r _ [32, 27, 28, 33, 34, 35, 25, 36, 37, 38, 39, 40, 41, 58, 59] (by decide +kernel) (by decide +kernel)
set_option maxRecDepth 20000 in
theorem gX1_putBlock_X6_sealBlock : GoodIn wsX1_putBlock (wsV RX1 150 RX6 yX6_sealBlock wsX6_sealBlock) := goodIn_app (goodIn_of _ (by decide +kernel)) ggX1_putBlock_X6_sealBlock
theorem dX1_putBlock_0 : decode cX1_putBlock 0 = .ok (.aload_n 0, 1) := by decide +kernel
theorem dX1_putBlock_1 : decode cX1_putBlock 1 = .ok (.invokevirtual 107, 3) := by decide +kernel
theorem dX1_putBlock_4 : decode cX1_putBlock 4 = .ok (.istore_n 2, 1) := by decide +kernel
theorem dX1_putBlock_5 : decode cX1_putBlock 5 = .ok (.aload_n 1, 1) := by decide +kernel
theorem dX1_putBlock_6 : decode cX1_putBlock 6 = .ok (.aload_n 0, 1) := by decide +kernel
theorem dX1_putBlock_7 : decode cX1_putBlock 7 = .ok (.getfield 88, 3) := by decide +kernel
theorem dX1_putBlock_10 : decode cX1_putBlock 10 = .ok (.iload_n 2, 1) := by decide +kernel
theorem dX1_putBlock_11 : decode cX1_putBlock 11 = .ok (.bipush 26, 2) := by decide +kernel
theorem dX1_putBlock_13 : decode cX1_putBlock 13 = .ok (.invokevirtual 126, 3) := by decide +kernel
theorem dX1_putBlock_16 : decode cX1_putBlock 16 = .ok (.aload_n 0, 1) := by decide +kernel
theorem dX1_putBlock_17 : decode cX1_putBlock 17 = .ok (.getfield 14, 3) := by decide +kernel
theorem dX1_putBlock_20 : decode cX1_putBlock 20 = .ok (.getfield 153, 3) := by decide +kernel
theorem dX1_putBlock_23 : decode cX1_putBlock 23 = .ok (.aload_n 0, 1) := by decide +kernel
theorem dX1_putBlock_24 : decode cX1_putBlock 24 = .ok (.getfield 95, 3) := by decide +kernel
theorem dX1_putBlock_27 : decode cX1_putBlock 27 = .ok (.aload_n 1, 1) := by decide +kernel
theorem dX1_putBlock_28 : decode cX1_putBlock 28 = .ok (.getfield 137, 3) := by decide +kernel
theorem dX1_putBlock_31 : decode cX1_putBlock 31 = .ok (.iconst 3, 1) := by decide +kernel
theorem dX1_putBlock_32 : decode cX1_putBlock 32 = .ok (.iload_n 2, 1) := by decide +kernel
theorem dX1_putBlock_33 : decode cX1_putBlock 33 = .ok (.aload_n 0, 1) := by decide +kernel
theorem dX1_putBlock_34 : decode cX1_putBlock 34 = .ok (.getfield 101, 3) := by decide +kernel
theorem dX1_putBlock_37 : decode cX1_putBlock 37 = .ok (.invokestatic 111, 3) := by decide +kernel
theorem dX1_putBlock_40 : decode cX1_putBlock 40 = .ok (.invokestatic 140, 3) := by decide +kernel
theorem dX1_putBlock_43 : decode cX1_putBlock 43 = .ok (.aload_n 1, 1) := by decide +kernel
theorem dX1_putBlock_44 : decode cX1_putBlock 44 = .ok (.aload_n 0, 1) := by decide +kernel
theorem dX1_putBlock_45 : decode cX1_putBlock 45 = .ok (.getfield 43, 3) := by decide +kernel
theorem dX1_putBlock_48 : decode cX1_putBlock 48 = .ok (.invokevirtual 150, 3) := by decide +kernel
theorem dX1_putBlock_51 : decode cX1_putBlock 51 = .ok (.return_, 1) := by decide +kernel
theorem dX1_blockLength_0 : decode cX1_blockLength 0 = .ok (.aload_n 0, 1) := by decide +kernel
theorem dX1_blockLength_1 : decode cX1_blockLength 1 = .ok (.getfield 43, 3) := by decide +kernel
theorem dX1_blockLength_4 : decode cX1_blockLength 4 = .ok (.iconst 2, 1) := by decide +kernel
theorem dX1_blockLength_5 : decode cX1_blockLength 5 = .ok (.if_icmp .lt 19, 3) := by decide +kernel
theorem dX1_blockLength_8 : decode cX1_blockLength 8 = .ok (.aload_n 0, 1) := by decide +kernel
theorem dX1_blockLength_9 : decode cX1_blockLength 9 = .ok (.getfield 101, 3) := by decide +kernel
theorem dX1_blockLength_12 : decode cX1_blockLength 12 = .ok (.sipush 896, 3) := by decide +kernel
theorem dX1_blockLength_15 : decode cX1_blockLength 15 = .ok (.if_icmp .le 9, 3) := by decide +kernel
theorem dX1_blockLength_18 : decode cX1_blockLength 18 = .ok (.sipush 1024, 3) := by decide +kernel
theorem dX1_blockLength_21 : decode cX1_blockLength 21 = .ok (.goto 6, 3) := by decide +kernel
theorem dX1_blockLength_24 : decode cX1_blockLength 24 = .ok (.sipush 128, 3) := by decide +kernel
theorem dX1_blockLength_27 : decode cX1_blockLength 27 = .ok (.ireturn, 1) := by decide +kernel
theorem dX2_init_0 : decode cX2_init 0 = .ok (.aload_n 0, 1) := by decide +kernel
theorem dX2_init_1 : decode cX2_init 1 = .ok (.invokespecial 3, 3) := by decide +kernel
theorem dX2_init_4 : decode cX2_init 4 = .ok (.aload_n 0, 1) := by decide +kernel
theorem dX2_init_5 : decode cX2_init 5 = .ok (.bipush 96, 2) := by decide +kernel
theorem dX2_init_7 : decode cX2_init 7 = .ok (.newarray .byte, 2) := by decide +kernel
theorem dX2_init_9 : decode cX2_init 9 = .ok (.putfield 9, 3) := by decide +kernel
theorem dX2_init_12 : decode cX2_init 12 = .ok (.aload_n 0, 1) := by decide +kernel
theorem dX2_init_13 : decode cX2_init 13 = .ok (.bipush 8, 2) := by decide +kernel
theorem dX2_init_15 : decode cX2_init 15 = .ok (.newarray .int, 2) := by decide +kernel
theorem dX2_init_17 : decode cX2_init 17 = .ok (.putfield 15, 3) := by decide +kernel
theorem dX2_init_20 : decode cX2_init 20 = .ok (.aload_n 0, 1) := by decide +kernel
theorem dX2_init_21 : decode cX2_init 21 = .ok (.bipush 8, 2) := by decide +kernel
theorem dX2_init_23 : decode cX2_init 23 = .ok (.newarray .int, 2) := by decide +kernel
theorem dX2_init_25 : decode cX2_init 25 = .ok (.putfield 19, 3) := by decide +kernel
theorem dX2_init_28 : decode cX2_init 28 = .ok (.aload_n 0, 1) := by decide +kernel
theorem dX2_init_29 : decode cX2_init 29 = .ok (.bipush 8, 2) := by decide +kernel
theorem dX2_init_31 : decode cX2_init 31 = .ok (.newarray .int, 2) := by decide +kernel
theorem dX2_init_33 : decode cX2_init 33 = .ok (.putfield 22, 3) := by decide +kernel
theorem dX2_init_36 : decode cX2_init 36 = .ok (.aload_n 0, 1) := by decide +kernel
theorem dX2_init_37 : decode cX2_init 37 = .ok (.iload_n 1, 1) := by decide +kernel
theorem dX2_init_38 : decode cX2_init 38 = .ok (.newarray .byte, 2) := by decide +kernel
theorem dX2_init_40 : decode cX2_init 40 = .ok (.putfield 25, 3) := by decide +kernel
theorem dX2_init_43 : decode cX2_init 43 = .ok (.return_, 1) := by decide +kernel
theorem dX2_has_0 : decode cX2_has 0 = .ok (.iload_n 1, 1) := by decide +kernel
theorem dX2_has_1 : decode cX2_has 1 = .ok (.ifCond .lt 15, 3) := by decide +kernel
theorem dX2_has_4 : decode cX2_has 4 = .ok (.iload_n 1, 1) := by decide +kernel
theorem dX2_has_5 : decode cX2_has 5 = .ok (.aload_n 0, 1) := by decide +kernel
theorem dX2_has_6 : decode cX2_has 6 = .ok (.getfield 28, 3) := by decide +kernel
theorem dX2_has_9 : decode cX2_has 9 = .ok (.if_icmp .ge 7, 3) := by decide +kernel
theorem dX2_has_12 : decode cX2_has 12 = .ok (.iconst 1, 1) := by decide +kernel
theorem dX2_has_13 : decode cX2_has 13 = .ok (.goto 4, 3) := by decide +kernel
theorem dX2_has_16 : decode cX2_has 16 = .ok (.iconst 0, 1) := by decide +kernel
theorem dX2_has_17 : decode cX2_has 17 = .ok (.ireturn, 1) := by decide +kernel
theorem dX2_open_0 : decode cX2_open 0 = .ok (.aload_n 0, 1) := by decide +kernel
theorem dX2_open_1 : decode cX2_open 1 = .ok (.getfield 28, 3) := by decide +kernel
theorem dX2_open_4 : decode cX2_open 4 = .ok (.bipush 8, 2) := by decide +kernel
theorem dX2_open_6 : decode cX2_open 6 = .ok (.if_icmp .lt 4, 3) := by decide +kernel
theorem dX2_open_9 : decode cX2_open 9 = .ok (.return_, 1) := by decide +kernel
theorem dX2_open_10 : decode cX2_open 10 = .ok (.aload_n 0, 1) := by decide +kernel
theorem dX2_open_11 : decode cX2_open 11 = .ok (.getfield 19, 3) := by decide +kernel
theorem dX2_open_14 : decode cX2_open 14 = .ok (.aload_n 0, 1) := by decide +kernel
theorem dX2_open_15 : decode cX2_open 15 = .ok (.getfield 28, 3) := by decide +kernel
theorem dX2_open_18 : decode cX2_open 18 = .ok (.aload_n 0, 1) := by decide +kernel
theorem dX2_open_19 : decode cX2_open 19 = .ok (.getfield 28, 3) := by decide +kernel
theorem dX2_open_22 : decode cX2_open 22 = .ok (.ifCond .ne 7, 3) := by decide +kernel
theorem dX2_open_25 : decode cX2_open 25 = .ok (.iconst 0, 1) := by decide +kernel
theorem dX2_open_26 : decode cX2_open 26 = .ok (.goto 26, 3) := by decide +kernel
theorem dX2_open_29 : decode cX2_open 29 = .ok (.aload_n 0, 1) := by decide +kernel
theorem dX2_open_30 : decode cX2_open 30 = .ok (.getfield 19, 3) := by decide +kernel
theorem dX2_open_33 : decode cX2_open 33 = .ok (.aload_n 0, 1) := by decide +kernel
theorem dX2_open_34 : decode cX2_open 34 = .ok (.getfield 28, 3) := by decide +kernel
theorem dX2_open_37 : decode cX2_open 37 = .ok (.iconst 1, 1) := by decide +kernel
theorem dX2_open_38 : decode cX2_open 38 = .ok (.isub, 1) := by decide +kernel
theorem dX2_open_39 : decode cX2_open 39 = .ok (.iaload, 1) := by decide +kernel
theorem dX2_open_40 : decode cX2_open 40 = .ok (.aload_n 0, 1) := by decide +kernel
theorem dX2_open_41 : decode cX2_open 41 = .ok (.getfield 22, 3) := by decide +kernel
theorem dX2_open_44 : decode cX2_open 44 = .ok (.aload_n 0, 1) := by decide +kernel
